theorem fa_reaches_0 : ∀ w ∈ wsX00, w ∈ wsX0_reaches := by decide +kernel
theorem fa_reaches_1 : Cond.fieldLink RX0 21 "FlowProofs$Distances" "least" "[I" ∈ wsX0_reaches := by decide +kernel
theorem fa_reaches_2 : Cond.constant RX0 28 (2147483647) ∈ wsX0_reaches := by decide +kernel
set_option maxHeartbeats 4000000 in
set_option maxRecDepth 100000 in
theorem k_reaches (l : Launch) (dC : Nat → ClassId) (dI : Nat → Nat → Nat) (cI cJ cZ : ClassId) (d0 d1 d2 : Nat) (q : Nat → Nat) (N : Nat) (le fe : Nat → Int32) (x : Int32) (hx0 : vp_in x N) : Met l yX0_reaches wsX0_reaches ({ frames := 0, cells := 0, slots := 0, locals := 0 }) (va_Pc [.ref d0, .int x] (fun U => va_P (dC, dI) vwCl [(d0, .inr (0, [.ref d1, .ref d2, .ref (q 1)])), (d1, .inl (cI, N, .inl le)), (d2, .inl (cI, N, .inl fe))] U.heap ∧ va_K (dC, dI) vwCl [(cI, .int), (cJ, .long), (cZ, .boolean)] U)) (vp_Si (fun r => r = (if le x.toNatClampNeg = 2147483647 then 0 else 1))) 0 0 (fun _ => False) := by
  refine Met.ofW (cc := cX0_reaches) (maxL := 2) (ret := (some .boolean)) (by decide) rfl ?_
  intro p e s m args below meth c s₁ B hml hv
  obtain ⟨rfl, hP, hK⟩ := hv
  have hx := B.exec
  have hb := B.bytes
  have hr := B.returns
  have hts := atoms_spec (ws := wsX0_reaches) B.pre
  have hown : s.vm.findClass RX0 = some m.cls := findClass_of_methodNamed B.named
  have hlocks := B.notSynchronized
  have hP : va_P (dC, dI) vwCl [(d0, .inr (0, [.ref d1, .ref d2, .ref (q 1)])), (d1, .inl (cI, N, .inl le)), (d2, .inl (cI, N, .inl fe))] s.heap := hP
  have hl := lv_entry ([.ref d0, .int x]) (n := 2) (Nat.le_of_ble_eq_true rfl)
  rw [lg_entry_eq]
  generalize (lg_sl ([.ref d0, .int x]) ++ List.replicate (2 - (lg_sl ([.ref d0, .int x])).length) Slot.unset).toArray = ls at hl ⊢
  have hl : lv_has ls 2 [(0, .ref d0), (1, .int x)] := hl
  refine lv_aload_n hx hb dX0_reaches_0 rfl (lv_at hl 0 rfl) ?_
  refine va_get (D := (dC, dI)) (ci := 0) (v := .ref d1) (C := RX0) (T := TX0) (N := 3) hx hb hts fa_reaches_0 hown hK hP 0 rfl rfl 0 (by decide) (hts _ fa_reaches_1) (fun _ h9 => h9) rfl dX0_reaches_1 ?_
  refine lv_iload_n hx hb dX0_reaches_4 rfl (lv_at hl 1 rfl) ?_
  refine va_iald (D := (dC, dI)) hx hb hK hP 1 0 rfl rfl (by first | assumption | exact vp_in_nI (by omega) (by omega)) dX0_reaches_5 ?_
  refine lv_ldc (v := 2147483647) hx hb hown (hts _ fa_reaches_2) dX0_reaches_6 ?_
  refine lv_icmp_eq (tgt := 15) hx hb dX0_reaches_8 (by decide) (fun c_8 => ?_) (fun c_8 => ?_)
  · refine lv_iconst (v := 0) hx hb dX0_reaches_15 (by decide) ?_
    exact W.zret (v := 0) hx hb hr rfl (fun t ht _ => ⟨0, rfl, (by first | rw [if_pos c_8] | rw [if_neg c_8]), ht⟩) (fun _ h => by cases h) dX0_reaches_16
  · refine lv_iconst (v := 1) hx hb dX0_reaches_11 (by decide) ?_
    refine lv_goto (tgt := 16) hx hb dX0_reaches_12 (by decide) ?_
    exact W.zret (v := 1) hx hb hr rfl (fun t ht _ => ⟨1, rfl, (by first | rw [if_pos c_8] | rw [if_neg c_8]), ht⟩) (fun _ h => by cases h) dX0_reaches_16

theorem fa_shorten_0 : ∀ w ∈ wsX00, w ∈ wsX0_shorten := by decide +kernel
theorem fa_shorten_1 : Cond.fieldLink RX0 21 "FlowProofs$Distances" "least" "[I" ∈ wsX0_shorten := by decide +kernel
theorem fa_shorten_2 : Cond.fieldLink RX0 25 "FlowProofs$Distances" "fewest" "[I" ∈ wsX0_shorten := by decide +kernel
set_option maxHeartbeats 4000000 in
set_option maxRecDepth 100000 in
theorem k_shorten (l : Launch) (dC : Nat → ClassId) (dI : Nat → Nat → Nat) (cI cJ cZ : ClassId) (d0 d1 d2 : Nat) (q : Nat → Nat) (N : Nat) (le fe : Nat → Int32) (x y z : Int32) (sz : Nat) (hx0 : vp_in x N) : Met l yX0_shorten wsX0_shorten ({ frames := 0, cells := 0, slots := 0, locals := 0 }) (va_Pc [.ref d0, .int x, .int y, .int z] (fun U => U.heap.size = sz ∧ va_P (dC, dI) vwCl [(d0, .inr (0, [.ref d1, .ref d2, .ref (q 1)])), (d1, .inl (cI, N, .inl le)), (d2, .inl (cI, N, .inl fe))] U.heap ∧ va_K (dC, dI) vwCl [(cI, .int), (cJ, .long), (cZ, .boolean)] U ∧ va_D (fun _ => True) [(d0, .inr (0, [.ref d1, .ref d2, .ref (q 1)])), (d1, .inl (cI, N, .inl le)), (d2, .inl (cI, N, .inl fe))])) (va_Qi (fun (r : Int32) (u_ : Unit) => r = fp_sch le fe x.toNatClampNeg y z) (fun (u_ : Unit) (t : State) => va_P (dC, dI) vwCl [(d0, .inr (0, [.ref d1, .ref d2, .ref (q 1)])), (d1, .inl (cI, N, .inl (fp_sle le fe x.toNatClampNeg y z))), (d2, .inl (cI, N, .inl (fp_sfe le fe x.toNatClampNeg y z)))] t.heap ∧ va_K (dC, dI) vwCl [(cI, .int), (cJ, .long), (cZ, .boolean)] t ∧ va_D (va_A [(d0, .inr (0, [.ref d1, .ref d2, .ref (q 1)])), (d1, .inl (cI, N, .inl le)), (d2, .inl (cI, N, .inl fe))] sz) [(d0, .inr (0, [.ref d1, .ref d2, .ref (q 1)])), (d1, .inl (cI, N, .inl (fp_sle le fe x.toNatClampNeg y z))), (d2, .inl (cI, N, .inl (fp_sfe le fe x.toNatClampNeg y z)))]) (va_A [(d0, .inr (0, [.ref d1, .ref d2, .ref (q 1)])), (d1, .inl (cI, N, .inl le)), (d2, .inl (cI, N, .inl fe))] sz)) 0 0 (va_A [(d0, .inr (0, [.ref d1, .ref d2, .ref (q 1)])), (d1, .inl (cI, N, .inl le)), (d2, .inl (cI, N, .inl fe))] sz) := by
  refine Met.ofW (cc := cX0_shorten) (maxL := 4) (ret := (some .boolean)) (by decide) rfl ?_
  intro p e s m args below meth c s₁ B hml hv
  obtain ⟨rfl, hsz, hP, hK, hD0⟩ := hv
  have hx := B.exec
  have hb := B.bytes
  have hr := B.returns
  have hts := atoms_spec (ws := wsX0_shorten) B.pre
  have hown : s.vm.findClass RX0 = some m.cls := findClass_of_methodNamed B.named
  have hlocks := B.notSynchronized
  subst hsz
  have hD := hD0.self (sz := s.heap.size)
  generalize hAe : va_A [(d0, .inr (0, [.ref d1, .ref d2, .ref (q 1)])), (d1, .inl (cI, N, .inl le)), (d2, .inl (cI, N, .inl fe))] s.heap.size = A at hD ⊢
  have hA : ∀ q : Nat, s.heap.size ≤ q → A q := fun q h => by rw [← hAe]; exact Or.inr h
  have hS : va_S A s.heap s.heap [] := va_S.rf
  have hP : va_P (dC, dI) vwCl [(d0, .inr (0, [.ref d1, .ref d2, .ref (q 1)])), (d1, .inl (cI, N, .inl le)), (d2, .inl (cI, N, .inl fe))] s.heap := hP
  have hl := lv_entry ([.ref d0, .int x, .int y, .int z]) (n := 4) (Nat.le_of_ble_eq_true rfl)
  rw [lg_entry_eq]
  generalize (lg_sl ([.ref d0, .int x, .int y, .int z]) ++ List.replicate (4 - (lg_sl ([.ref d0, .int x, .int y, .int z])).length) Slot.unset).toArray = ls at hl ⊢
  have hl : lv_has ls 4 [(0, .ref d0), (1, .int x), (2, .int y), (3, .int z)] := hl
  refine lv_iload_n hx hb dX0_shorten_0 rfl (lv_at hl 2 rfl) ?_
  refine lv_aload_n hx hb dX0_shorten_1 rfl (lv_at hl 0 rfl) ?_
  refine va_get (D := (dC, dI)) (ci := 0) (v := .ref d1) (C := RX0) (T := TX0) (N := 3) hx hb hts fa_shorten_0 hown hK hP 0 rfl rfl 0 (by decide) (hts _ fa_shorten_1) (fun _ h9 => h9) rfl dX0_shorten_2 ?_
  refine lv_iload_n hx hb dX0_shorten_5 rfl (lv_at hl 1 rfl) ?_
  refine va_iald (D := (dC, dI)) hx hb hK hP 1 0 rfl rfl (by first | assumption | exact vp_in_nI (by omega) (by omega)) dX0_shorten_6 ?_
  refine lv_icmp_gt (tgt := 30) hx hb dX0_shorten_7 (by decide) (fun c_7 => ?_) (fun c_7 => ?_)
  · refine lv_iconst (v := 0) hx hb dX0_shorten_30 (by decide) ?_
    have hno : fp_no le fe x.toNatClampNeg y z = true := by first | exact no_1 c_7 | exact no_2 c_17 c_27
    have hP := va_P_conI hP 1 (g := fp_sle le fe x.toNatClampNeg y z) rfl (fun j _ => by first | (rw [sle_t hno]; done) | (rw [sle_t hno]; rfl))
    have hD := va_D_con hD 1 (e1 := .inl (cI, N, .inl (fp_sle le fe x.toNatClampNeg y z))) rfl
    have hP := va_P_conI hP 2 (g := fp_sfe le fe x.toNatClampNeg y z) rfl (fun j _ => by first | (rw [sfe_t hno]; done) | (rw [sfe_t hno]; rfl))
    have hD := va_D_con hD 2 (e1 := .inl (cI, N, .inl (fp_sfe le fe x.toNatClampNeg y z))) rfl
    have hP9 := hP.sub (ws' := [(d0, .inr (0, [.ref d1, .ref d2, .ref (q 1)])), (d1, .inl (cI, N, .inl (fp_sle le fe x.toNatClampNeg y z))), (d2, .inl (cI, N, .inl (fp_sfe le fe x.toNatClampNeg y z)))]) [0, 1, 2] rfl
    have hD9 := hD.sub (ws' := [(d0, .inr (0, [.ref d1, .ref d2, .ref (q 1)])), (d1, .inl (cI, N, .inl (fp_sle le fe x.toNatClampNeg y z))), (d2, .inl (cI, N, .inl (fp_sfe le fe x.toNatClampNeg y z)))]) [0, 1, 2] (by decide) rfl
    exact W.zret (v := 0) hx hb hr rfl (fun t ht hW => ⟨⟨0, (), rfl, (by first | exact (sch_t hno).symm | exact (sch_f hno).symm), by rw [ht]; exact hP9, va_K.moved hW.alike hK, hD9⟩, hS.F ht⟩) hS.2.2 dX0_shorten_31
  · refine lv_iload_n hx hb dX0_shorten_10 rfl (lv_at hl 2 rfl) ?_
    refine lv_aload_n hx hb dX0_shorten_11 rfl (lv_at hl 0 rfl) ?_
    refine va_get (D := (dC, dI)) (ci := 0) (v := .ref d1) (C := RX0) (T := TX0) (N := 3) hx hb hts fa_shorten_0 hown hK hP 0 rfl rfl 0 (by decide) (hts _ fa_shorten_1) (fun _ h9 => h9) rfl dX0_shorten_12 ?_
    refine lv_iload_n hx hb dX0_shorten_15 rfl (lv_at hl 1 rfl) ?_
    refine va_iald (D := (dC, dI)) hx hb hK hP 1 0 rfl rfl (by first | assumption | exact vp_in_nI (by omega) (by omega)) dX0_shorten_16 ?_
    refine lv_icmp_ne (tgt := 32) hx hb dX0_shorten_17 (by decide) (fun c_17 => ?_) (fun c_17 => ?_)
    · refine lv_aload_n hx hb dX0_shorten_32 rfl (lv_at hl 0 rfl) ?_
      refine va_get (D := (dC, dI)) (ci := 0) (v := .ref d1) (C := RX0) (T := TX0) (N := 3) hx hb hts fa_shorten_0 hown hK hP 0 rfl rfl 0 (by decide) (hts _ fa_shorten_1) (fun _ h9 => h9) rfl dX0_shorten_33 ?_
      refine lv_iload_n hx hb dX0_shorten_36 rfl (lv_at hl 1 rfl) ?_
      refine lv_iload_n hx hb dX0_shorten_37 rfl (lv_at hl 2 rfl) ?_
      refine va_iast (D := (dC, dI)) hx hb hK hP hD hS 1 0 rfl rfl (by first | assumption | exact vp_in_nI (by omega) (by omega)) dX0_shorten_38 (fun H locs hP hD hS => ?_)
      have hP : va_P (dC, dI) vwCl [(d0, .inr (0, [.ref d1, .ref d2, .ref (q 1)])), (d1, .inl (cI, N, .inl (upd le (x.toNatClampNeg) y))), (d2, .inl (cI, N, .inl fe))] H := hP
      have hD : va_D A [(d0, .inr (0, [.ref d1, .ref d2, .ref (q 1)])), (d1, .inl (cI, N, .inl (upd le (x.toNatClampNeg) y))), (d2, .inl (cI, N, .inl fe))] := hD
      refine lv_aload_n hx hb dX0_shorten_39 rfl (lv_at hl 0 rfl) ?_
      refine va_get (D := (dC, dI)) (ci := 0) (v := .ref d2) (C := RX0) (T := TX0) (N := 3) hx hb hts fa_shorten_0 hown hK hP 0 rfl rfl 1 (by decide) (hts _ fa_shorten_2) (fun _ h9 => h9) rfl dX0_shorten_40 ?_
      refine lv_iload_n hx hb dX0_shorten_43 rfl (lv_at hl 1 rfl) ?_
      refine lv_iload_n hx hb dX0_shorten_44 rfl (lv_at hl 3 rfl) ?_
      refine va_iast (D := (dC, dI)) hx hb hK hP hD hS 2 0 rfl rfl (by first | assumption | exact vp_in_nI (by omega) (by omega)) dX0_shorten_45 (fun H locs hP hD hS => ?_)
      have hP : va_P (dC, dI) vwCl [(d0, .inr (0, [.ref d1, .ref d2, .ref (q 1)])), (d1, .inl (cI, N, .inl (upd le (x.toNatClampNeg) y))), (d2, .inl (cI, N, .inl (upd fe (x.toNatClampNeg) z)))] H := hP
      have hD : va_D A [(d0, .inr (0, [.ref d1, .ref d2, .ref (q 1)])), (d1, .inl (cI, N, .inl (upd le (x.toNatClampNeg) y))), (d2, .inl (cI, N, .inl (upd fe (x.toNatClampNeg) z)))] := hD
      refine lv_iconst (v := 1) hx hb dX0_shorten_46 (by decide) ?_
      have hno : fp_no le fe x.toNatClampNeg y z = false := by first | exact no_3 c_7 c_17 | exact no_4 c_7 c_27
      have hP := va_P_conI hP 1 (g := fp_sle le fe x.toNatClampNeg y z) rfl (fun j _ => by first | (rw [sle_f hno]; done) | (rw [sle_f hno]; rfl))
      have hD := va_D_con hD 1 (e1 := .inl (cI, N, .inl (fp_sle le fe x.toNatClampNeg y z))) rfl
      have hP := va_P_conI hP 2 (g := fp_sfe le fe x.toNatClampNeg y z) rfl (fun j _ => by first | (rw [sfe_f hno]; done) | (rw [sfe_f hno]; rfl))
      have hD := va_D_con hD 2 (e1 := .inl (cI, N, .inl (fp_sfe le fe x.toNatClampNeg y z))) rfl
      have hP9 := hP.sub (ws' := [(d0, .inr (0, [.ref d1, .ref d2, .ref (q 1)])), (d1, .inl (cI, N, .inl (fp_sle le fe x.toNatClampNeg y z))), (d2, .inl (cI, N, .inl (fp_sfe le fe x.toNatClampNeg y z)))]) [0, 1, 2] rfl
      have hD9 := hD.sub (ws' := [(d0, .inr (0, [.ref d1, .ref d2, .ref (q 1)])), (d1, .inl (cI, N, .inl (fp_sle le fe x.toNatClampNeg y z))), (d2, .inl (cI, N, .inl (fp_sfe le fe x.toNatClampNeg y z)))]) [0, 1, 2] (by decide) rfl
      exact W.zret (v := 1) hx hb hr rfl (fun t ht hW => ⟨⟨1, (), rfl, (by first | exact (sch_t hno).symm | exact (sch_f hno).symm), by rw [ht]; exact hP9, va_K.moved hW.alike hK, hD9⟩, hS.F ht⟩) hS.2.2 dX0_shorten_47
    · refine lv_iload_n hx hb dX0_shorten_20 rfl (lv_at hl 3 rfl) ?_
      refine lv_aload_n hx hb dX0_shorten_21 rfl (lv_at hl 0 rfl) ?_
      refine va_get (D := (dC, dI)) (ci := 0) (v := .ref d2) (C := RX0) (T := TX0) (N := 3) hx hb hts fa_shorten_0 hown hK hP 0 rfl rfl 1 (by decide) (hts _ fa_shorten_2) (fun _ h9 => h9) rfl dX0_shorten_22 ?_
      refine lv_iload_n hx hb dX0_shorten_25 rfl (lv_at hl 1 rfl) ?_
      refine va_iald (D := (dC, dI)) hx hb hK hP 2 0 rfl rfl (by first | assumption | exact vp_in_nI (by omega) (by omega)) dX0_shorten_26 ?_
      refine lv_icmp_lt (tgt := 32) hx hb dX0_shorten_27 (by decide) (fun c_27 => ?_) (fun c_27 => ?_)
      · refine lv_aload_n hx hb dX0_shorten_32 rfl (lv_at hl 0 rfl) ?_
        refine va_get (D := (dC, dI)) (ci := 0) (v := .ref d1) (C := RX0) (T := TX0) (N := 3) hx hb hts fa_shorten_0 hown hK hP 0 rfl rfl 0 (by decide) (hts _ fa_shorten_1) (fun _ h9 => h9) rfl dX0_shorten_33 ?_
        refine lv_iload_n hx hb dX0_shorten_36 rfl (lv_at hl 1 rfl) ?_
        refine lv_iload_n hx hb dX0_shorten_37 rfl (lv_at hl 2 rfl) ?_
        refine va_iast (D := (dC, dI)) hx hb hK hP hD hS 1 0 rfl rfl (by first | assumption | exact vp_in_nI (by omega) (by omega)) dX0_shorten_38 (fun H locs hP hD hS => ?_)
        have hP : va_P (dC, dI) vwCl [(d0, .inr (0, [.ref d1, .ref d2, .ref (q 1)])), (d1, .inl (cI, N, .inl (upd le (x.toNatClampNeg) y))), (d2, .inl (cI, N, .inl fe))] H := hP
        have hD : va_D A [(d0, .inr (0, [.ref d1, .ref d2, .ref (q 1)])), (d1, .inl (cI, N, .inl (upd le (x.toNatClampNeg) y))), (d2, .inl (cI, N, .inl fe))] := hD
        refine lv_aload_n hx hb dX0_shorten_39 rfl (lv_at hl 0 rfl) ?_
        refine va_get (D := (dC, dI)) (ci := 0) (v := .ref d2) (C := RX0) (T := TX0) (N := 3) hx hb hts fa_shorten_0 hown hK hP 0 rfl rfl 1 (by decide) (hts _ fa_shorten_2) (fun _ h9 => h9) rfl dX0_shorten_40 ?_
        refine lv_iload_n hx hb dX0_shorten_43 rfl (lv_at hl 1 rfl) ?_
        refine lv_iload_n hx hb dX0_shorten_44 rfl (lv_at hl 3 rfl) ?_
        refine va_iast (D := (dC, dI)) hx hb hK hP hD hS 2 0 rfl rfl (by first | assumption | exact vp_in_nI (by omega) (by omega)) dX0_shorten_45 (fun H locs hP hD hS => ?_)
        have hP : va_P (dC, dI) vwCl [(d0, .inr (0, [.ref d1, .ref d2, .ref (q 1)])), (d1, .inl (cI, N, .inl (upd le (x.toNatClampNeg) y))), (d2, .inl (cI, N, .inl (upd fe (x.toNatClampNeg) z)))] H := hP
        have hD : va_D A [(d0, .inr (0, [.ref d1, .ref d2, .ref (q 1)])), (d1, .inl (cI, N, .inl (upd le (x.toNatClampNeg) y))), (d2, .inl (cI, N, .inl (upd fe (x.toNatClampNeg) z)))] := hD
        refine lv_iconst (v := 1) hx hb dX0_shorten_46 (by decide) ?_
        have hno : fp_no le fe x.toNatClampNeg y z = false := by first | exact no_3 c_7 c_17 | exact no_4 c_7 c_27
        have hP := va_P_conI hP 1 (g := fp_sle le fe x.toNatClampNeg y z) rfl (fun j _ => by first | (rw [sle_f hno]; done) | (rw [sle_f hno]; rfl))
        have hD := va_D_con hD 1 (e1 := .inl (cI, N, .inl (fp_sle le fe x.toNatClampNeg y z))) rfl
        have hP := va_P_conI hP 2 (g := fp_sfe le fe x.toNatClampNeg y z) rfl (fun j _ => by first | (rw [sfe_f hno]; done) | (rw [sfe_f hno]; rfl))
        have hD := va_D_con hD 2 (e1 := .inl (cI, N, .inl (fp_sfe le fe x.toNatClampNeg y z))) rfl
        have hP9 := hP.sub (ws' := [(d0, .inr (0, [.ref d1, .ref d2, .ref (q 1)])), (d1, .inl (cI, N, .inl (fp_sle le fe x.toNatClampNeg y z))), (d2, .inl (cI, N, .inl (fp_sfe le fe x.toNatClampNeg y z)))]) [0, 1, 2] rfl
        have hD9 := hD.sub (ws' := [(d0, .inr (0, [.ref d1, .ref d2, .ref (q 1)])), (d1, .inl (cI, N, .inl (fp_sle le fe x.toNatClampNeg y z))), (d2, .inl (cI, N, .inl (fp_sfe le fe x.toNatClampNeg y z)))]) [0, 1, 2] (by decide) rfl
        exact W.zret (v := 1) hx hb hr rfl (fun t ht hW => ⟨⟨1, (), rfl, (by first | exact (sch_t hno).symm | exact (sch_f hno).symm), by rw [ht]; exact hP9, va_K.moved hW.alike hK, hD9⟩, hS.F ht⟩) hS.2.2 dX0_shorten_47
      · refine lv_iconst (v := 0) hx hb dX0_shorten_30 (by decide) ?_
        have hno : fp_no le fe x.toNatClampNeg y z = true := by first | exact no_1 c_7 | exact no_2 c_17 c_27
        have hP := va_P_conI hP 1 (g := fp_sle le fe x.toNatClampNeg y z) rfl (fun j _ => by first | (rw [sle_t hno]; done) | (rw [sle_t hno]; rfl))
        have hD := va_D_con hD 1 (e1 := .inl (cI, N, .inl (fp_sle le fe x.toNatClampNeg y z))) rfl
        have hP := va_P_conI hP 2 (g := fp_sfe le fe x.toNatClampNeg y z) rfl (fun j _ => by first | (rw [sfe_t hno]; done) | (rw [sfe_t hno]; rfl))
        have hD := va_D_con hD 2 (e1 := .inl (cI, N, .inl (fp_sfe le fe x.toNatClampNeg y z))) rfl
        have hP9 := hP.sub (ws' := [(d0, .inr (0, [.ref d1, .ref d2, .ref (q 1)])), (d1, .inl (cI, N, .inl (fp_sle le fe x.toNatClampNeg y z))), (d2, .inl (cI, N, .inl (fp_sfe le fe x.toNatClampNeg y z)))]) [0, 1, 2] rfl
        have hD9 := hD.sub (ws' := [(d0, .inr (0, [.ref d1, .ref d2, .ref (q 1)])), (d1, .inl (cI, N, .inl (fp_sle le fe x.toNatClampNeg y z))), (d2, .inl (cI, N, .inl (fp_sfe le fe x.toNatClampNeg y z)))]) [0, 1, 2] (by decide) rfl
        exact W.zret (v := 0) hx hb hr rfl (fun t ht hW => ⟨⟨0, (), rfl, (by first | exact (sch_t hno).symm | exact (sch_f hno).symm), by rw [ht]; exact hP9, va_K.moved hW.alike hK, hD9⟩, hS.F ht⟩) hS.2.2 dX0_shorten_31

theorem fa_passF_0 : ∀ w ∈ wsX00, w ∈ wsX0_passOverArcs := by decide +kernel
theorem fa_passF_1 : Cond.fieldLink RX0 9 "FlowProofs$Distances" "net" "LFlowProofs$Net;" ∈ wsX0_passOverArcs := by decide +kernel
theorem fa_passF_2 : Cond.fieldLink RX0 21 "FlowProofs$Distances" "least" "[I" ∈ wsX0_passOverArcs := by decide +kernel
theorem fa_passF_3 : Cond.fieldLink RX0 25 "FlowProofs$Distances" "fewest" "[I" ∈ wsX0_passOverArcs := by decide +kernel
set_option maxHeartbeats 4000000 in
set_option maxRecDepth 100000 in
theorem k_passF (l : Launch) (dC : Nat → ClassId) (dI : Nat → Nat → Nat) (cI cJ cZ : ClassId) (d0 d1 d2 : Nat) (q : Nat → Nat) (N M E : Nat) (fr to cap uc fl : Nat → Int32) (le fe : Nat → Int32) (sz : Nat) (hE : E ≤ M) (hM : M < 1000) (hN : N < 1000) (hfr : ∀ e, e < E → vp_in (fr e) N) (hto : ∀ e, e < E → vp_in (to e) N) : Met l yX0_passOverArcs wsX0_passOverArcs ({ frames := 2, cells := 0, slots := 0, locals := 42 }) (va_Pc [.ref d0, .int 0] (fun U => U.heap.size = sz ∧ va_P (dC, dI) vwCl [(d0, .inr (0, [.ref d1, .ref d2, .ref (q 1)])), (d1, .inl (cI, N, .inl le)), (d2, .inl (cI, N, .inl fe)), (q 1, .inr (1, [.int (nI N), .ref (q 2), .ref (q 3), .ref (q 4), .ref (q 5), .ref (q 6), .int (nI E)])), (q 2, .inl (cI, M, .inl fr)), (q 3, .inl (cI, M, .inl to)), (q 4, .inl (cI, M, .inl cap)), (q 5, .inl (cI, M, .inl uc)), (q 6, .inl (cI, M, .inl fl))] U.heap ∧ va_K (dC, dI) vwCl [(cI, .int), (cJ, .long), (cZ, .boolean)] U ∧ va_D (fun _ => True) [(d0, .inr (0, [.ref d1, .ref d2, .ref (q 1)])), (d1, .inl (cI, N, .inl le)), (d2, .inl (cI, N, .inl fe)), (q 1, .inr (1, [.int (nI N), .ref (q 2), .ref (q 3), .ref (q 4), .ref (q 5), .ref (q 6), .int (nI E)])), (q 2, .inl (cI, M, .inl fr)), (q 3, .inl (cI, M, .inl to)), (q 4, .inl (cI, M, .inl cap)), (q 5, .inl (cI, M, .inl uc)), (q 6, .inl (cI, M, .inl fl))])) (va_Qi (fun (r : Int32) (u_ : Unit) => r = (fp_ps false fr to cap uc fl le fe (2 * E)).2.2) (fun (u_ : Unit) (t : State) => va_P (dC, dI) vwCl [(d0, .inr (0, [.ref d1, .ref d2, .ref (q 1)])), (d1, .inl (cI, N, .inl ((fp_ps false fr to cap uc fl le fe (2 * E)).1))), (d2, .inl (cI, N, .inl ((fp_ps false fr to cap uc fl le fe (2 * E)).2.1))), (q 1, .inr (1, [.int (nI N), .ref (q 2), .ref (q 3), .ref (q 4), .ref (q 5), .ref (q 6), .int (nI E)])), (q 2, .inl (cI, M, .inl fr)), (q 3, .inl (cI, M, .inl to)), (q 4, .inl (cI, M, .inl cap)), (q 5, .inl (cI, M, .inl uc)), (q 6, .inl (cI, M, .inl fl))] t.heap ∧ va_K (dC, dI) vwCl [(cI, .int), (cJ, .long), (cZ, .boolean)] t ∧ va_D (va_A [(d0, .inr (0, [.ref d1, .ref d2, .ref (q 1)])), (d1, .inl (cI, N, .inl le)), (d2, .inl (cI, N, .inl fe)), (q 1, .inr (1, [.int (nI N), .ref (q 2), .ref (q 3), .ref (q 4), .ref (q 5), .ref (q 6), .int (nI E)])), (q 2, .inl (cI, M, .inl fr)), (q 3, .inl (cI, M, .inl to)), (q 4, .inl (cI, M, .inl cap)), (q 5, .inl (cI, M, .inl uc)), (q 6, .inl (cI, M, .inl fl))] sz) [(d0, .inr (0, [.ref d1, .ref d2, .ref (q 1)])), (d1, .inl (cI, N, .inl ((fp_ps false fr to cap uc fl le fe (2 * E)).1))), (d2, .inl (cI, N, .inl ((fp_ps false fr to cap uc fl le fe (2 * E)).2.1))), (q 1, .inr (1, [.int (nI N), .ref (q 2), .ref (q 3), .ref (q 4), .ref (q 5), .ref (q 6), .int (nI E)])), (q 2, .inl (cI, M, .inl fr)), (q 3, .inl (cI, M, .inl to)), (q 4, .inl (cI, M, .inl cap)), (q 5, .inl (cI, M, .inl uc)), (q 6, .inl (cI, M, .inl fl))]) (va_A [(d0, .inr (0, [.ref d1, .ref d2, .ref (q 1)])), (d1, .inl (cI, N, .inl le)), (d2, .inl (cI, N, .inl fe)), (q 1, .inr (1, [.int (nI N), .ref (q 2), .ref (q 3), .ref (q 4), .ref (q 5), .ref (q 6), .int (nI E)])), (q 2, .inl (cI, M, .inl fr)), (q 3, .inl (cI, M, .inl to)), (q 4, .inl (cI, M, .inl cap)), (q 5, .inl (cI, M, .inl uc)), (q 6, .inl (cI, M, .inl fl))] sz)) 0 0 (va_A [(d0, .inr (0, [.ref d1, .ref d2, .ref (q 1)])), (d1, .inl (cI, N, .inl le)), (d2, .inl (cI, N, .inl fe)), (q 1, .inr (1, [.int (nI N), .ref (q 2), .ref (q 3), .ref (q 4), .ref (q 5), .ref (q 6), .int (nI E)])), (q 2, .inl (cI, M, .inl fr)), (q 3, .inl (cI, M, .inl to)), (q 4, .inl (cI, M, .inl cap)), (q 5, .inl (cI, M, .inl uc)), (q 6, .inl (cI, M, .inl fl))] sz) := by
  refine Met.ofW (cc := cX0_passOverArcs) (maxL := 6) (ret := (some .boolean)) (by decide) rfl ?_
  intro p e s m args below meth c s₁ B hml hv
  obtain ⟨rfl, hsz, hP, hK, hD0⟩ := hv
  have hx := B.exec
  have hb := B.bytes
  have hr := B.returns
  have hts := atoms_spec (ws := wsX0_passOverArcs) B.pre
  have hown : s.vm.findClass RX0 = some m.cls := findClass_of_methodNamed B.named
  have hlocks := B.notSynchronized
  subst hsz
  have hD := hD0.self (sz := s.heap.size)
  generalize hAe : va_A [(d0, .inr (0, [.ref d1, .ref d2, .ref (q 1)])), (d1, .inl (cI, N, .inl le)), (d2, .inl (cI, N, .inl fe)), (q 1, .inr (1, [.int (nI N), .ref (q 2), .ref (q 3), .ref (q 4), .ref (q 5), .ref (q 6), .int (nI E)])), (q 2, .inl (cI, M, .inl fr)), (q 3, .inl (cI, M, .inl to)), (q 4, .inl (cI, M, .inl cap)), (q 5, .inl (cI, M, .inl uc)), (q 6, .inl (cI, M, .inl fl))] s.heap.size = A at hD ⊢
  have hA : ∀ q : Nat, s.heap.size ≤ q → A q := fun q h => by rw [← hAe]; exact Or.inr h
  have hS : va_S A s.heap s.heap [] := va_S.rf
  have hP : va_P (dC, dI) vwCl [(d0, .inr (0, [.ref d1, .ref d2, .ref (q 1)])), (d1, .inl (cI, N, .inl le)), (d2, .inl (cI, N, .inl fe)), (q 1, .inr (1, [.int (nI N), .ref (q 2), .ref (q 3), .ref (q 4), .ref (q 5), .ref (q 6), .int (nI E)])), (q 2, .inl (cI, M, .inl fr)), (q 3, .inl (cI, M, .inl to)), (q 4, .inl (cI, M, .inl cap)), (q 5, .inl (cI, M, .inl uc)), (q 6, .inl (cI, M, .inl fl))] s.heap := hP
  have hl := lv_entry ([.ref d0, .int 0]) (n := 6) (Nat.le_of_ble_eq_true rfl)
  rw [lg_entry_eq]
  generalize (lg_sl ([.ref d0, .int 0]) ++ List.replicate (6 - (lg_sl ([.ref d0, .int 0])).length) Slot.unset).toArray = ls at hl ⊢
  have hl : lv_has ls 6 [(0, .ref d0), (1, .int 0)] := hl
  refine lv_iconst (v := 0) hx hb dX0_passOverArcs_0 (by decide) ?_
  refine lv_istore_n (lv' := [(2, .int 0), (0, .ref d0), (1, .int 0)]) hx hb dX0_passOverArcs_1 rfl hl (by decide) rfl (fun ls hl => ?_)
  refine lv_iconst (v := 0) hx hb dX0_passOverArcs_2 (by decide) ?_
  refine tp_i (y := nI 0) nI_0.symm ?_
  refine lv_istore_n (lv' := [(3, .int (nI 0)), (2, .int 0), (0, .ref d0), (1, .int 0)]) hx hb dX0_passOverArcs_3 rfl hl (by decide) rfl (fun ls hl => ?_)
  have lo_a : ∀ (nf : Nat) (i : Nat) (g : Nat → Int32) (h : Nat → Int32) (ch : Int32) (hi : i ≤ 2 * E) (hst : fp_ps false fr to cap uc fl le fe i = (g, h, ch)) (hfu : 2 * E - i < nf) (H : Heap) (locs : List Loc) (hP : va_P (dC, dI) vwCl [(d0, .inr (0, [.ref d1, .ref d2, .ref (q 1)])), (d1, .inl (cI, N, .inl g)), (d2, .inl (cI, N, .inl h)), (q 1, .inr (1, [.int (nI N), .ref (q 2), .ref (q 3), .ref (q 4), .ref (q 5), .ref (q 6), .int (nI E)])), (q 2, .inl (cI, M, .inl fr)), (q 3, .inl (cI, M, .inl to)), (q 4, .inl (cI, M, .inl cap)), (q 5, .inl (cI, M, .inl uc)), (q 6, .inl (cI, M, .inl fl))] H) (hD : va_D A [(d0, .inr (0, [.ref d1, .ref d2, .ref (q 1)])), (d1, .inl (cI, N, .inl g)), (d2, .inl (cI, N, .inl h)), (q 1, .inr (1, [.int (nI N), .ref (q 2), .ref (q 3), .ref (q 4), .ref (q 5), .ref (q 6), .int (nI E)])), (q 2, .inl (cI, M, .inl fr)), (q 3, .inl (cI, M, .inl to)), (q 4, .inl (cI, M, .inl cap)), (q 5, .inl (cI, M, .inl uc)), (q 6, .inl (cI, M, .inl fl))]) (hS : va_S A s.heap H locs) (ls : Array Slot) (hl : lv_has ls 6 [(0, .ref d0), (1, .int 0), (2, .int ch), (3, .int (nI i))]), W p l e (headSpec wsX0_passOverArcs ({ frames := 2, cells := 0, slots := 0, locals := 42 })).room s m ([.ref d0, .int 0] : List Value).toArray below meth c H locs 0 0 (MQ below (va_Qi (fun (r : Int32) (u_ : Unit) => r = (fp_ps false fr to cap uc fl le fe (2 * E)).2.2) (fun (u_ : Unit) (t : State) => va_P (dC, dI) vwCl [(d0, .inr (0, [.ref d1, .ref d2, .ref (q 1)])), (d1, .inl (cI, N, .inl ((fp_ps false fr to cap uc fl le fe (2 * E)).1))), (d2, .inl (cI, N, .inl ((fp_ps false fr to cap uc fl le fe (2 * E)).2.1))), (q 1, .inr (1, [.int (nI N), .ref (q 2), .ref (q 3), .ref (q 4), .ref (q 5), .ref (q 6), .int (nI E)])), (q 2, .inl (cI, M, .inl fr)), (q 3, .inl (cI, M, .inl to)), (q 4, .inl (cI, M, .inl cap)), (q 5, .inl (cI, M, .inl uc)), (q 6, .inl (cI, M, .inl fl))] t.heap ∧ va_K (dC, dI) vwCl [(cI, .int), (cJ, .long), (cZ, .boolean)] t ∧ va_D A [(d0, .inr (0, [.ref d1, .ref d2, .ref (q 1)])), (d1, .inl (cI, N, .inl ((fp_ps false fr to cap uc fl le fe (2 * E)).1))), (d2, .inl (cI, N, .inl ((fp_ps false fr to cap uc fl le fe (2 * E)).2.1))), (q 1, .inr (1, [.int (nI N), .ref (q 2), .ref (q 3), .ref (q 4), .ref (q 5), .ref (q 6), .int (nI E)])), (q 2, .inl (cI, M, .inl fr)), (q 3, .inl (cI, M, .inl to)), (q 4, .inl (cI, M, .inl cap)), (q 5, .inl (cI, M, .inl uc)), (q 6, .inl (cI, M, .inl fl))]) A) ([.ref d0, .int 0] : List Value).toArray s 0 0 A) (F0 m 4 ls [])
    := by
    intro nf
    induction nf with
    | zero => intro i g h ch hi hst hfu H locs hP hD hS ls hl; exact absurd hfu (Nat.not_lt_zero _)
    | succ nf ih_a =>
      intro i g h ch hi hst hfu H locs hP hD hS ls hl
      refine lv_iload_n hx hb dX0_passOverArcs_4 rfl (lv_at hl 3 rfl) ?_
      refine lv_aload_n hx hb dX0_passOverArcs_5 rfl (lv_at hl 0 rfl) ?_
      refine va_get (D := (dC, dI)) (ci := 0) (v := .ref (q 1)) (C := RX0) (T := TX0) (N := 3) hx hb hts fa_passF_0 hown hK hP 0 rfl rfl 2 (by decide) (hts _ fa_passF_1) (fun _ h9 => h9) rfl dX0_passOverArcs_6 ?_
      have hPc := hP.sub (ws' := [(q 1, .inr (1, [.int (nI N), .ref (q 2), .ref (q 3), .ref (q 4), .ref (q 5), .ref (q 6), .int (nI E)])), (q 2, .inl (cI, M, .inl fr)), (q 3, .inl (cI, M, .inl to)), (q 4, .inl (cI, M, .inl cap)), (q 5, .inl (cI, M, .inl uc)), (q 6, .inl (cI, M, .inl fl))]) [3, 4, 5, 6, 7, 8] rfl
      refine vp_callSi (W.runV (As := []) (rest := [.int (nI i)]) ⟨hx, hb, hml, hown, hts⟩ (k_arcs l dC dI cI cJ cZ q N M E fr to cap uc fl) (cwV 0 hts gX0_passOverArcs_X1_arcs rfl rfl rfl (by decide +kernel) ⟨Nat.le_of_ble_eq_true rfl, Nat.le_of_ble_eq_true rfl⟩) ⟨fun a U g mk q => by obtain ⟨q0, qP, qK⟩ := q; exact ⟨q0, qP, va_K.moved (u := U) (U := U.calling g mk a) (Vm.Alike.refl U.vm) qK⟩, va_recv hK hP (ci := 1) (q0 := 3) rfl rfl, fun U hU hW => ⟨rfl, by rw [hU]; exact hPc, va_K.moved hW.alike hK⟩⟩ rfl rfl hl.1 rfl (lv_room (Nat.le_of_ble_eq_true rfl)) dX0_passOverArcs_9 ⟨Nat.le_of_ble_eq_true rfl, Nat.le_of_ble_eq_true rfl⟩) (fun r_9 hw_9 => ?_)
      subst hw_9
      refine lv_icmp_ge (tgt := 130) hx hb dX0_passOverArcs_12 (by decide) (fun c_12 => ?_) (fun c_12 => ?_)
      · have hge := ix_ge (by omega) (by omega) c_12
        obtain rfl : i = 2 * E := by omega
        refine lv_iload_n hx hb dX0_passOverArcs_130 rfl (lv_at hl 2 rfl) ?_
        have hP := va_P_conI hP 1 (g := (fp_ps false fr to cap uc fl le fe (2 * E)).1) rfl (fun j _ => by first | (rw [hst]; done) | (rw [hst]; rfl))
        have hD := va_D_con hD 1 (e1 := .inl (cI, N, .inl ((fp_ps false fr to cap uc fl le fe (2 * E)).1))) rfl
        have hP := va_P_conI hP 2 (g := (fp_ps false fr to cap uc fl le fe (2 * E)).2.1) rfl (fun j _ => by first | (rw [hst]; done) | (rw [hst]; rfl))
        have hD := va_D_con hD 2 (e1 := .inl (cI, N, .inl ((fp_ps false fr to cap uc fl le fe (2 * E)).2.1))) rfl
        have hP9 := hP.sub (ws' := [(d0, .inr (0, [.ref d1, .ref d2, .ref (q 1)])), (d1, .inl (cI, N, .inl ((fp_ps false fr to cap uc fl le fe (2 * E)).1))), (d2, .inl (cI, N, .inl ((fp_ps false fr to cap uc fl le fe (2 * E)).2.1))), (q 1, .inr (1, [.int (nI N), .ref (q 2), .ref (q 3), .ref (q 4), .ref (q 5), .ref (q 6), .int (nI E)])), (q 2, .inl (cI, M, .inl fr)), (q 3, .inl (cI, M, .inl to)), (q 4, .inl (cI, M, .inl cap)), (q 5, .inl (cI, M, .inl uc)), (q 6, .inl (cI, M, .inl fl))]) [0, 1, 2, 3, 4, 5, 6, 7, 8] rfl
        have hD9 := hD.sub (ws' := [(d0, .inr (0, [.ref d1, .ref d2, .ref (q 1)])), (d1, .inl (cI, N, .inl ((fp_ps false fr to cap uc fl le fe (2 * E)).1))), (d2, .inl (cI, N, .inl ((fp_ps false fr to cap uc fl le fe (2 * E)).2.1))), (q 1, .inr (1, [.int (nI N), .ref (q 2), .ref (q 3), .ref (q 4), .ref (q 5), .ref (q 6), .int (nI E)])), (q 2, .inl (cI, M, .inl fr)), (q 3, .inl (cI, M, .inl to)), (q 4, .inl (cI, M, .inl cap)), (q 5, .inl (cI, M, .inl uc)), (q 6, .inl (cI, M, .inl fl))]) [0, 1, 2, 3, 4, 5, 6, 7, 8] (by decide) rfl
        exact W.zret (v := ch) hx hb hr (nb01 (by have h9 := fp_ps_ch false fr to cap uc fl le fe (2 * E); rw [hst] at h9; exact h9)) (fun t ht hW => ⟨⟨ch, (), rfl, (by rw [hst]), by rw [ht]; exact hP9, va_K.moved hW.alike hK, hD9⟩, hS.F ht⟩) hS.2.2 dX0_passOverArcs_131
      · have hlt := ix_lt (by omega) (by omega) c_12
        have hbi := bg_in hfr hto hlt
        have hei := en_in hfr hto hlt
        refine lv_aload_n hx hb dX0_passOverArcs_15 rfl (lv_at hl 0 rfl) ?_
        refine va_get (D := (dC, dI)) (ci := 0) (v := .ref (q 1)) (C := RX0) (T := TX0) (N := 3) hx hb hts fa_passF_0 hown hK hP 0 rfl rfl 2 (by decide) (hts _ fa_passF_1) (fun _ h9 => h9) rfl dX0_passOverArcs_16 ?_
        refine lv_iload_n hx hb dX0_passOverArcs_19 rfl (lv_at hl 3 rfl) ?_
        have hPc := hP.sub (ws' := [(q 1, .inr (1, [.int (nI N), .ref (q 2), .ref (q 3), .ref (q 4), .ref (q 5), .ref (q 6), .int (nI E)])), (q 2, .inl (cI, M, .inl fr)), (q 3, .inl (cI, M, .inl to)), (q 4, .inl (cI, M, .inl cap)), (q 5, .inl (cI, M, .inl uc)), (q 6, .inl (cI, M, .inl fl))]) [3, 4, 5, 6, 7, 8] rfl
        refine vp_callSi (W.runV (As := [.int (nI i)]) (rest := []) ⟨hx, hb, hml, hown, hts⟩ (k_left l dC dI cI cJ cZ q N M E fr to cap uc fl i (by omega) hM) (cwV 1 hts gX0_passOverArcs_X1_left rfl rfl rfl (by decide +kernel) ⟨Nat.le_of_ble_eq_true rfl, Nat.le_of_ble_eq_true rfl⟩) ⟨fun a U g mk q => by obtain ⟨q0, qP, qK⟩ := q; exact ⟨q0, qP, va_K.moved (u := U) (U := U.calling g mk a) (Vm.Alike.refl U.vm) qK⟩, va_recv hK hP (ci := 1) (q0 := 3) rfl rfl, fun U hU hW => ⟨rfl, by rw [hU]; exact hPc, va_K.moved hW.alike hK⟩⟩ rfl rfl hl.1 rfl (lv_room (Nat.le_of_ble_eq_true rfl)) dX0_passOverArcs_20 ⟨Nat.le_of_ble_eq_true rfl, Nat.le_of_ble_eq_true rfl⟩) (fun r_20 hw_20 => ?_)
        subst hw_20
        refine lv_if_gt (tgt := 29) hx hb dX0_passOverArcs_23 (by decide) (fun c_23 => ?_) (fun c_23 => ?_)
        · refine lv_iload_n hx hb dX0_passOverArcs_29 rfl (lv_at hl 1 rfl) ?_
          refine lv_if_eq (tgt := 44) hx hb dX0_passOverArcs_30 (by decide) (fun c_30 => ?_) (fun c_30 => ?_)
          · refine lv_aload_n hx hb dX0_passOverArcs_44 rfl (lv_at hl 0 rfl) ?_
            refine va_get (D := (dC, dI)) (ci := 0) (v := .ref (q 1)) (C := RX0) (T := TX0) (N := 3) hx hb hts fa_passF_0 hown hK hP 0 rfl rfl 2 (by decide) (hts _ fa_passF_1) (fun _ h9 => h9) rfl dX0_passOverArcs_45 ?_
            refine lv_iload_n hx hb dX0_passOverArcs_48 rfl (lv_at hl 3 rfl) ?_
            have hPc := hP.sub (ws' := [(q 1, .inr (1, [.int (nI N), .ref (q 2), .ref (q 3), .ref (q 4), .ref (q 5), .ref (q 6), .int (nI E)])), (q 2, .inl (cI, M, .inl fr)), (q 3, .inl (cI, M, .inl to)), (q 4, .inl (cI, M, .inl cap)), (q 5, .inl (cI, M, .inl uc)), (q 6, .inl (cI, M, .inl fl))]) [3, 4, 5, 6, 7, 8] rfl
            refine vp_callSi (W.runV (As := [.int (nI i)]) (rest := []) ⟨hx, hb, hml, hown, hts⟩ (k_begin l dC dI cI cJ cZ q N M E fr to cap uc fl i (by omega) hM) (cwV 1 hts gX0_passOverArcs_X1_begin rfl rfl rfl (by decide +kernel) ⟨Nat.le_of_ble_eq_true rfl, Nat.le_of_ble_eq_true rfl⟩) ⟨fun a U g mk q => by obtain ⟨q0, qP, qK⟩ := q; exact ⟨q0, qP, va_K.moved (u := U) (U := U.calling g mk a) (Vm.Alike.refl U.vm) qK⟩, va_recv hK hP (ci := 1) (q0 := 3) rfl rfl, fun U hU hW => ⟨rfl, by rw [hU]; exact hPc, va_K.moved hW.alike hK⟩⟩ rfl rfl hl.1 rfl (lv_room (Nat.le_of_ble_eq_true rfl)) dX0_passOverArcs_49 ⟨Nat.le_of_ble_eq_true rfl, Nat.le_of_ble_eq_true rfl⟩) (fun r_49 hw_49 => ?_)
            subst hw_49
            refine lv_istore (lv' := [(4, .int (fp_bg fr to i)), (0, .ref d0), (1, .int 0), (2, .int ch), (3, .int (nI i))]) hx hb dX0_passOverArcs_52 hl (by decide) rfl (fun ls hl => ?_)
            refine lv_iload_n hx hb dX0_passOverArcs_54 rfl (lv_at hl 2 rfl) ?_
            refine lv_if_eq (tgt := 69) hx hb dX0_passOverArcs_55 (by decide) (fun c_55 => ?_) (fun c_55 => ?_)
            · refine lv_aload_n hx hb dX0_passOverArcs_69 rfl (lv_at hl 1 rfl) ?_
              refine va_get (D := (dC, dI)) (ci := 0) (v := .ref (q 1)) (C := RX0) (T := TX0) (N := 3) hx hb hts fa_passF_0 hown hK hP 0 rfl rfl 2 (by decide) (hts _ fa_passF_1) (fun _ h9 => h9) rfl dX0_passOverArcs_70 ?_
              refine lv_iload_n hx hb dX0_passOverArcs_73 rfl (lv_at hl 4 rfl) ?_
              have hPc := hP.sub (ws' := [(q 1, .inr (1, [.int (nI N), .ref (q 2), .ref (q 3), .ref (q 4), .ref (q 5), .ref (q 6), .int (nI E)])), (q 2, .inl (cI, M, .inl fr)), (q 3, .inl (cI, M, .inl to)), (q 4, .inl (cI, M, .inl cap)), (q 5, .inl (cI, M, .inl uc)), (q 6, .inl (cI, M, .inl fl))]) [3, 4, 5, 6, 7, 8] rfl
              refine vp_callSi (W.runV (As := [.int (nI i)]) (rest := []) ⟨hx, hb, hml, hown, hts⟩ (k_end l dC dI cI cJ cZ q N M E fr to cap uc fl i (by omega) hM) (cwV 1 hts gX0_passOverArcs_X1_end rfl rfl rfl (by decide +kernel) ⟨Nat.le_of_ble_eq_true rfl, Nat.le_of_ble_eq_true rfl⟩) ⟨fun a U g mk q => by obtain ⟨q0, qP, qK⟩ := q; exact ⟨q0, qP, va_K.moved (u := U) (U := U.calling g mk a) (Vm.Alike.refl U.vm) qK⟩, va_recv hK hP (ci := 1) (q0 := 3) rfl rfl, fun U hU hW => ⟨rfl, by rw [hU]; exact hPc, va_K.moved hW.alike hK⟩⟩ rfl rfl hl.1 rfl (lv_room (Nat.le_of_ble_eq_true rfl)) dX0_passOverArcs_74 ⟨Nat.le_of_ble_eq_true rfl, Nat.le_of_ble_eq_true rfl⟩) (fun r_74 hw_74 => ?_)
              subst hw_74
              refine lv_istore (lv' := [(5, .int (fp_en fr to i)), (4, .int (fp_bg fr to i)), (0, .ref d0), (1, .int 0), (2, .int ch), (3, .int (nI i))]) hx hb dX0_passOverArcs_77 hl (by decide) rfl (fun ls hl => ?_)
              refine lv_aload_n hx hb dX0_passOverArcs_79 rfl (lv_at hl 2 rfl) ?_
              refine lv_iload hx hb dX0_passOverArcs_80 (lv_at hl 1 rfl) ?_
              have hPc := hP.sub (ws' := [(d0, .inr (0, [.ref d1, .ref d2, .ref (q 1)])), (d1, .inl (cI, N, .inl g)), (d2, .inl (cI, N, .inl h))]) [0, 1, 2] rfl
              refine vp_callSi (W.runV (As := [.int (fp_bg fr to i)]) (rest := []) ⟨hx, hb, hml, hown, hts⟩ (k_reaches l dC dI cI cJ cZ d0 d1 d2 q N g h (fp_bg fr to i) (by assumption)) (cwV 1 hts gX0_passOverArcs_X0_reaches rfl rfl rfl (by decide +kernel) ⟨Nat.le_of_ble_eq_true rfl, Nat.le_of_ble_eq_true rfl⟩) ⟨fun a U g mk q => by obtain ⟨q0, qP, qK⟩ := q; exact ⟨q0, qP, va_K.moved (u := U) (U := U.calling g mk a) (Vm.Alike.refl U.vm) qK⟩, va_recv hK hP (ci := 0) (q0 := 0) rfl rfl, fun U hU hW => ⟨rfl, by rw [hU]; exact hPc, va_K.moved hW.alike hK⟩⟩ rfl rfl hl.1 rfl (lv_room (Nat.le_of_ble_eq_true rfl)) dX0_passOverArcs_82 ⟨Nat.le_of_ble_eq_true rfl, Nat.le_of_ble_eq_true rfl⟩) (fun r_82 hw_82 => ?_)
              subst hw_82
              refine lv_if_eq (tgt := 124) hx hb dX0_passOverArcs_85 (by decide) (fun c_85 => ?_) (fun c_85 => ?_)
              · refine lv_iinc (v := nI (i + 1)) (lv' := [(3, .int (nI (i + 1))), (5, .int (fp_en fr to i)), (4, .int (fp_bg fr to i)), (0, .ref d0), (1, .int 0), (2, .int ch)]) hx hb dX0_passOverArcs_124 hl (k := 5) rfl (by first | exact nI_1 _ | exact nI_add _ _) (by decide) rfl (fun ls hl => ?_)
                refine lv_goto (tgt := 4) hx hb dX0_passOverArcs_127 (by decide) ?_
                exact ih_a (i + 1) g h ch (by first | assumption | omega | rfl) (by rw [fp_ps, hst]; first | exact rx_a c_23 | exact rx_b c_23 (rch0 c_85) | exact rx_c0 c_23 (rch1 c_85) c_119 | exact rx_c1 c_23 (rch1 c_85) c_119) (by omega) _ _ hP hD hS _ (lv_sub hl [3, 4, 5, 0] rfl)
              · refine lv_aload_n hx hb dX0_passOverArcs_88 rfl (lv_at hl 2 rfl) ?_
                refine lv_iload hx hb dX0_passOverArcs_89 (lv_at hl 0 rfl) ?_
                refine lv_aload_n hx hb dX0_passOverArcs_91 rfl (lv_at hl 2 rfl) ?_
                refine va_get (D := (dC, dI)) (ci := 0) (v := .ref d1) (C := RX0) (T := TX0) (N := 3) hx hb hts fa_passF_0 hown hK hP 0 rfl rfl 0 (by decide) (hts _ fa_passF_2) (fun _ h9 => h9) rfl dX0_passOverArcs_92 ?_
                refine lv_iload hx hb dX0_passOverArcs_95 (lv_at hl 1 rfl) ?_
                refine va_iald (D := (dC, dI)) hx hb hK hP 1 0 rfl rfl (by first | assumption | exact vp_in_nI (by omega) (by omega)) dX0_passOverArcs_97 ?_
                refine lv_aload_n hx hb dX0_passOverArcs_98 rfl (lv_at hl 2 rfl) ?_
                refine va_get (D := (dC, dI)) (ci := 0) (v := .ref (q 1)) (C := RX0) (T := TX0) (N := 3) hx hb hts fa_passF_0 hown hK hP 0 rfl rfl 2 (by decide) (hts _ fa_passF_1) (fun _ h9 => h9) rfl dX0_passOverArcs_99 ?_
                refine lv_iload_n hx hb dX0_passOverArcs_102 rfl (lv_at hl 5 rfl) ?_
                have hPc := hP.sub (ws' := [(q 1, .inr (1, [.int (nI N), .ref (q 2), .ref (q 3), .ref (q 4), .ref (q 5), .ref (q 6), .int (nI E)])), (q 2, .inl (cI, M, .inl fr)), (q 3, .inl (cI, M, .inl to)), (q 4, .inl (cI, M, .inl cap)), (q 5, .inl (cI, M, .inl uc)), (q 6, .inl (cI, M, .inl fl))]) [3, 4, 5, 6, 7, 8] rfl
                refine vp_callSi (W.runV (As := [.int (nI i)]) (rest := [.int (g (fp_bg fr to i).toNatClampNeg), .int (fp_en fr to i), .ref d0]) ⟨hx, hb, hml, hown, hts⟩ (k_price l dC dI cI cJ cZ q N M E fr to cap uc fl i (by omega) hM) (cwV 1 hts gX0_passOverArcs_X1_price rfl rfl rfl (by decide +kernel) ⟨Nat.le_of_ble_eq_true rfl, Nat.le_of_ble_eq_true rfl⟩) ⟨fun a U g mk q => by obtain ⟨q0, qP, qK⟩ := q; exact ⟨q0, qP, va_K.moved (u := U) (U := U.calling g mk a) (Vm.Alike.refl U.vm) qK⟩, va_recv hK hP (ci := 1) (q0 := 3) rfl rfl, fun U hU hW => ⟨rfl, by rw [hU]; exact hPc, va_K.moved hW.alike hK⟩⟩ rfl rfl hl.1 rfl (lv_room (Nat.le_of_ble_eq_true rfl)) dX0_passOverArcs_103 ⟨Nat.le_of_ble_eq_true rfl, Nat.le_of_ble_eq_true rfl⟩) (fun r_103 hw_103 => ?_)
                subst hw_103
                refine lv_iadd hx hb dX0_passOverArcs_106 ?_
                refine lv_aload_n hx hb dX0_passOverArcs_107 rfl (lv_at hl 2 rfl) ?_
                refine va_get (D := (dC, dI)) (ci := 0) (v := .ref d2) (C := RX0) (T := TX0) (N := 3) hx hb hts fa_passF_0 hown hK hP 0 rfl rfl 1 (by decide) (hts _ fa_passF_3) (fun _ h9 => h9) rfl dX0_passOverArcs_108 ?_
                refine lv_iload hx hb dX0_passOverArcs_111 (lv_at hl 1 rfl) ?_
                refine va_iald (D := (dC, dI)) hx hb hK hP 2 0 rfl rfl (by first | assumption | exact vp_in_nI (by omega) (by omega)) dX0_passOverArcs_113 ?_
                refine lv_iconst (v := 1) hx hb dX0_passOverArcs_114 (by decide) ?_
                refine lv_iadd hx hb dX0_passOverArcs_115 ?_
                have hPc := hP.sub (ws' := [(d0, .inr (0, [.ref d1, .ref d2, .ref (q 1)])), (d1, .inl (cI, N, .inl g)), (d2, .inl (cI, N, .inl h))]) [0, 1, 2] rfl
                have hDc := hD.sub (ws' := [(d0, .inr (0, [.ref d1, .ref d2, .ref (q 1)])), (d1, .inl (cI, N, .inl g)), (d2, .inl (cI, N, .inl h))]) [0, 1, 2] (by decide) rfl
                have hFc := va_free (wc := [(d0, .inr (0, [.ref d1, .ref d2, .ref (q 1)])), (d1, .inl (cI, N, .inl g)), (d2, .inl (cI, N, .inl h))]) hD hS hA [0, 1, 2] rfl
                refine va_calli (va_runV (As := [.int (fp_en fr to i), .int ((g (fp_bg fr to i).toNatClampNeg) + (fp_pr uc i)), .int ((h (fp_bg fr to i).toNatClampNeg) + 1)]) (rest := []) ⟨hx, hb, hml, hown, hts⟩ (k_shorten l dC dI cI cJ cZ d0 d1 d2 q N g h (fp_en fr to i) ((g (fp_bg fr to i).toNatClampNeg) + (fp_pr uc i)) ((h (fp_bg fr to i).toNatClampNeg) + 1) H.size (by assumption)) (cwV 3 hts gX0_passOverArcs_X0_shorten rfl rfl rfl (by decide +kernel) ⟨Nat.le_of_ble_eq_true rfl, Nat.le_of_ble_eq_true rfl⟩) ⟨fun a U g mk q => by obtain ⟨q0, q1, qP, qK, qD⟩ := q; exact ⟨q0, q1, qP, va_K.moved (u := U) (U := U.calling g mk a) (Vm.Alike.refl U.vm) qK, qD⟩, va_recv hK hP (ci := 0) (q0 := 0) rfl rfl, fun U hU hW => ⟨rfl, by rw [hU], by rw [hU]; exact hPc, va_K.moved hW.alike hK, hDc.weaken (fun _ _ _ _ => trivial)⟩⟩ rfl rfl hl.1 rfl (lv_room (Nat.le_of_ble_eq_true rfl)) dX0_passOverArcs_116 ⟨Nat.le_of_ble_eq_true rfl, Nat.le_of_ble_eq_true rfl⟩) hS (fun q _ h => hFc q h) hFc (fun r_116 u t H1 locs ht hvm hw_116 hB hz1 hk1 hS => ?_)
                obtain ⟨hP1, hK1, hD1⟩ := hB
                rw [ht] at hP1
                obtain ⟨hP, hD⟩ := va_join (wr := [(q 1, .inr (1, [.int (nI N), .ref (q 2), .ref (q 3), .ref (q 4), .ref (q 5), .ref (q 6), .int (nI E)])), (q 2, .inl (cI, M, .inl fr)), (q 3, .inl (cI, M, .inl to)), (q 4, .inl (cI, M, .inl cap)), (q 5, .inl (cI, M, .inl uc)), (q 6, .inl (cI, M, .inl fl))]) (w1 := [(d0, .inr (0, [.ref d1, .ref d2, .ref (q 1)])), (d1, .inl (cI, N, .inl (fp_sle g h ((fp_en fr to i).toNatClampNeg) ((g (fp_bg fr to i).toNatClampNeg) + (fp_pr uc i)) ((h (fp_bg fr to i).toNatClampNeg) + 1)))), (d2, .inl (cI, N, .inl (fp_sfe g h ((fp_en fr to i).toNatClampNeg) ((g (fp_bg fr to i).toNatClampNeg) + (fp_pr uc i)) ((h (fp_bg fr to i).toNatClampNeg) + 1))))]) hP hD [0, 1, 2] [3, 4, 5, 6, 7, 8] rfl rfl (by decide) (by decide) hk1 hFc hP1 hD1
                generalize H1 = H at hP hS ⊢
                have hP := hP.sub (ws' := [(d0, .inr (0, [.ref d1, .ref d2, .ref (q 1)])), (d1, .inl (cI, N, .inl (fp_sle g h ((fp_en fr to i).toNatClampNeg) ((g (fp_bg fr to i).toNatClampNeg) + (fp_pr uc i)) ((h (fp_bg fr to i).toNatClampNeg) + 1)))), (d2, .inl (cI, N, .inl (fp_sfe g h ((fp_en fr to i).toNatClampNeg) ((g (fp_bg fr to i).toNatClampNeg) + (fp_pr uc i)) ((h (fp_bg fr to i).toNatClampNeg) + 1)))), (q 1, .inr (1, [.int (nI N), .ref (q 2), .ref (q 3), .ref (q 4), .ref (q 5), .ref (q 6), .int (nI E)])), (q 2, .inl (cI, M, .inl fr)), (q 3, .inl (cI, M, .inl to)), (q 4, .inl (cI, M, .inl cap)), (q 5, .inl (cI, M, .inl uc)), (q 6, .inl (cI, M, .inl fl))]) [6, 7, 8, 0, 1, 2, 3, 4, 5] rfl
                have hD := hD.sub (ws' := [(d0, .inr (0, [.ref d1, .ref d2, .ref (q 1)])), (d1, .inl (cI, N, .inl (fp_sle g h ((fp_en fr to i).toNatClampNeg) ((g (fp_bg fr to i).toNatClampNeg) + (fp_pr uc i)) ((h (fp_bg fr to i).toNatClampNeg) + 1)))), (d2, .inl (cI, N, .inl (fp_sfe g h ((fp_en fr to i).toNatClampNeg) ((g (fp_bg fr to i).toNatClampNeg) + (fp_pr uc i)) ((h (fp_bg fr to i).toNatClampNeg) + 1)))), (q 1, .inr (1, [.int (nI N), .ref (q 2), .ref (q 3), .ref (q 4), .ref (q 5), .ref (q 6), .int (nI E)])), (q 2, .inl (cI, M, .inl fr)), (q 3, .inl (cI, M, .inl to)), (q 4, .inl (cI, M, .inl cap)), (q 5, .inl (cI, M, .inl uc)), (q 6, .inl (cI, M, .inl fl))]) [6, 7, 8, 0, 1, 2, 3, 4, 5] (by decide) rfl
                obtain rfl := hw_116
                refine lv_if_eq (tgt := 124) hx hb dX0_passOverArcs_119 (by decide) (fun c_119 => ?_) (fun c_119 => ?_)
                · refine lv_iinc (v := nI (i + 1)) (lv' := [(3, .int (nI (i + 1))), (5, .int (fp_en fr to i)), (4, .int (fp_bg fr to i)), (0, .ref d0), (1, .int 0), (2, .int ch)]) hx hb dX0_passOverArcs_124 hl (k := 5) rfl (by first | exact nI_1 _ | exact nI_add _ _) (by decide) rfl (fun ls hl => ?_)
                  refine lv_goto (tgt := 4) hx hb dX0_passOverArcs_127 (by decide) ?_
                  exact ih_a (i + 1) (fp_sle g h ((fp_en fr to i).toNatClampNeg) ((g (fp_bg fr to i).toNatClampNeg) + (fp_pr uc i)) ((h (fp_bg fr to i).toNatClampNeg) + 1)) (fp_sfe g h ((fp_en fr to i).toNatClampNeg) ((g (fp_bg fr to i).toNatClampNeg) + (fp_pr uc i)) ((h (fp_bg fr to i).toNatClampNeg) + 1)) ch (by first | assumption | omega | rfl) (by rw [fp_ps, hst]; first | exact rx_a c_23 | exact rx_b c_23 (rch0 c_85) | exact rx_c0 c_23 (rch1 c_85) c_119 | exact rx_c1 c_23 (rch1 c_85) c_119) (by omega) _ _ hP hD hS _ (lv_sub hl [3, 4, 5, 0] rfl)
                · refine lv_iconst (v := 1) hx hb dX0_passOverArcs_122 (by decide) ?_
                  refine lv_istore_n (lv' := [(2, .int 1), (5, .int (fp_en fr to i)), (4, .int (fp_bg fr to i)), (0, .ref d0), (1, .int 0), (3, .int (nI i))]) hx hb dX0_passOverArcs_123 rfl hl (by decide) rfl (fun ls hl => ?_)
                  refine lv_iinc (v := nI (i + 1)) (lv' := [(3, .int (nI (i + 1))), (2, .int 1), (5, .int (fp_en fr to i)), (4, .int (fp_bg fr to i)), (0, .ref d0), (1, .int 0)]) hx hb dX0_passOverArcs_124 hl (k := 5) rfl (by first | exact nI_1 _ | exact nI_add _ _) (by decide) rfl (fun ls hl => ?_)
                  refine lv_goto (tgt := 4) hx hb dX0_passOverArcs_127 (by decide) ?_
                  exact ih_a (i + 1) (fp_sle g h ((fp_en fr to i).toNatClampNeg) ((g (fp_bg fr to i).toNatClampNeg) + (fp_pr uc i)) ((h (fp_bg fr to i).toNatClampNeg) + 1)) (fp_sfe g h ((fp_en fr to i).toNatClampNeg) ((g (fp_bg fr to i).toNatClampNeg) + (fp_pr uc i)) ((h (fp_bg fr to i).toNatClampNeg) + 1)) 1 (by first | assumption | omega | rfl) (by rw [fp_ps, hst]; first | exact rx_a c_23 | exact rx_b c_23 (rch0 c_85) | exact rx_c0 c_23 (rch1 c_85) c_119 | exact rx_c1 c_23 (rch1 c_85) c_119) (by omega) _ _ hP hD hS _ (lv_sub hl [4, 5, 1, 0] rfl)
            · exact absurd rfl c_55
          · exact absurd rfl c_30
        · refine lv_goto (tgt := 124) hx hb dX0_passOverArcs_26 (by decide) ?_
          refine lv_iinc (v := nI (i + 1)) (lv' := [(3, .int (nI (i + 1))), (0, .ref d0), (1, .int 0), (2, .int ch)]) hx hb dX0_passOverArcs_124 hl (k := 3) rfl (by first | exact nI_1 _ | exact nI_add _ _) (by decide) rfl (fun ls hl => ?_)
          refine lv_goto (tgt := 4) hx hb dX0_passOverArcs_127 (by decide) ?_
          exact ih_a (i + 1) g h ch (by first | assumption | omega | rfl) (by rw [fp_ps, hst]; first | exact rx_a c_23 | exact rx_b c_23 (rch0 c_85) | exact rx_c0 c_23 (rch1 c_85) c_119 | exact rx_c1 c_23 (rch1 c_85) c_119) (by omega) _ _ hP hD hS _ (lv_sub hl [1, 2, 3, 0] rfl)
  exact lo_a (2 * E - 0 + 1) 0 le fe 0 (by first | assumption | omega | rfl) rfl (by omega) _ _ hP hD hS _ (lv_sub hl [2, 3, 1, 0] rfl)

theorem fa_passT_0 : ∀ w ∈ wsX00, w ∈ wsX0_passOverArcs := by decide +kernel
theorem fa_passT_1 : Cond.fieldLink RX0 9 "FlowProofs$Distances" "net" "LFlowProofs$Net;" ∈ wsX0_passOverArcs := by decide +kernel
theorem fa_passT_2 : Cond.fieldLink RX0 21 "FlowProofs$Distances" "least" "[I" ∈ wsX0_passOverArcs := by decide +kernel
theorem fa_passT_3 : Cond.fieldLink RX0 25 "FlowProofs$Distances" "fewest" "[I" ∈ wsX0_passOverArcs := by decide +kernel
set_option maxHeartbeats 4000000 in
set_option maxRecDepth 100000 in
theorem k_passT (l : Launch) (dC : Nat → ClassId) (dI : Nat → Nat → Nat) (cI cJ cZ : ClassId) (d0 d1 d2 : Nat) (q : Nat → Nat) (N M E : Nat) (fr to cap uc fl : Nat → Int32) (le fe : Nat → Int32) (sz : Nat) (hE : E ≤ M) (hM : M < 1000) (hN : N < 1000) (hfr : ∀ e, e < E → vp_in (fr e) N) (hto : ∀ e, e < E → vp_in (to e) N) : Met l yX0_passOverArcs wsX0_passOverArcs ({ frames := 2, cells := 0, slots := 0, locals := 42 }) (va_Pc [.ref d0, .int 1] (fun U => U.heap.size = sz ∧ va_P (dC, dI) vwCl [(d0, .inr (0, [.ref d1, .ref d2, .ref (q 1)])), (d1, .inl (cI, N, .inl le)), (d2, .inl (cI, N, .inl fe)), (q 1, .inr (1, [.int (nI N), .ref (q 2), .ref (q 3), .ref (q 4), .ref (q 5), .ref (q 6), .int (nI E)])), (q 2, .inl (cI, M, .inl fr)), (q 3, .inl (cI, M, .inl to)), (q 4, .inl (cI, M, .inl cap)), (q 5, .inl (cI, M, .inl uc)), (q 6, .inl (cI, M, .inl fl))] U.heap ∧ va_K (dC, dI) vwCl [(cI, .int), (cJ, .long), (cZ, .boolean)] U ∧ va_D (fun _ => True) [(d0, .inr (0, [.ref d1, .ref d2, .ref (q 1)])), (d1, .inl (cI, N, .inl le)), (d2, .inl (cI, N, .inl fe)), (q 1, .inr (1, [.int (nI N), .ref (q 2), .ref (q 3), .ref (q 4), .ref (q 5), .ref (q 6), .int (nI E)])), (q 2, .inl (cI, M, .inl fr)), (q 3, .inl (cI, M, .inl to)), (q 4, .inl (cI, M, .inl cap)), (q 5, .inl (cI, M, .inl uc)), (q 6, .inl (cI, M, .inl fl))])) (va_Qi (fun (r : Int32) (u_ : Unit) => r = (fp_ps true fr to cap uc fl le fe (2 * E)).2.2) (fun (u_ : Unit) (t : State) => va_P (dC, dI) vwCl [(d0, .inr (0, [.ref d1, .ref d2, .ref (q 1)])), (d1, .inl (cI, N, .inl ((fp_ps true fr to cap uc fl le fe (2 * E)).1))), (d2, .inl (cI, N, .inl ((fp_ps true fr to cap uc fl le fe (2 * E)).2.1))), (q 1, .inr (1, [.int (nI N), .ref (q 2), .ref (q 3), .ref (q 4), .ref (q 5), .ref (q 6), .int (nI E)])), (q 2, .inl (cI, M, .inl fr)), (q 3, .inl (cI, M, .inl to)), (q 4, .inl (cI, M, .inl cap)), (q 5, .inl (cI, M, .inl uc)), (q 6, .inl (cI, M, .inl fl))] t.heap ∧ va_K (dC, dI) vwCl [(cI, .int), (cJ, .long), (cZ, .boolean)] t ∧ va_D (va_A [(d0, .inr (0, [.ref d1, .ref d2, .ref (q 1)])), (d1, .inl (cI, N, .inl le)), (d2, .inl (cI, N, .inl fe)), (q 1, .inr (1, [.int (nI N), .ref (q 2), .ref (q 3), .ref (q 4), .ref (q 5), .ref (q 6), .int (nI E)])), (q 2, .inl (cI, M, .inl fr)), (q 3, .inl (cI, M, .inl to)), (q 4, .inl (cI, M, .inl cap)), (q 5, .inl (cI, M, .inl uc)), (q 6, .inl (cI, M, .inl fl))] sz) [(d0, .inr (0, [.ref d1, .ref d2, .ref (q 1)])), (d1, .inl (cI, N, .inl ((fp_ps true fr to cap uc fl le fe (2 * E)).1))), (d2, .inl (cI, N, .inl ((fp_ps true fr to cap uc fl le fe (2 * E)).2.1))), (q 1, .inr (1, [.int (nI N), .ref (q 2), .ref (q 3), .ref (q 4), .ref (q 5), .ref (q 6), .int (nI E)])), (q 2, .inl (cI, M, .inl fr)), (q 3, .inl (cI, M, .inl to)), (q 4, .inl (cI, M, .inl cap)), (q 5, .inl (cI, M, .inl uc)), (q 6, .inl (cI, M, .inl fl))]) (va_A [(d0, .inr (0, [.ref d1, .ref d2, .ref (q 1)])), (d1, .inl (cI, N, .inl le)), (d2, .inl (cI, N, .inl fe)), (q 1, .inr (1, [.int (nI N), .ref (q 2), .ref (q 3), .ref (q 4), .ref (q 5), .ref (q 6), .int (nI E)])), (q 2, .inl (cI, M, .inl fr)), (q 3, .inl (cI, M, .inl to)), (q 4, .inl (cI, M, .inl cap)), (q 5, .inl (cI, M, .inl uc)), (q 6, .inl (cI, M, .inl fl))] sz)) 0 0 (va_A [(d0, .inr (0, [.ref d1, .ref d2, .ref (q 1)])), (d1, .inl (cI, N, .inl le)), (d2, .inl (cI, N, .inl fe)), (q 1, .inr (1, [.int (nI N), .ref (q 2), .ref (q 3), .ref (q 4), .ref (q 5), .ref (q 6), .int (nI E)])), (q 2, .inl (cI, M, .inl fr)), (q 3, .inl (cI, M, .inl to)), (q 4, .inl (cI, M, .inl cap)), (q 5, .inl (cI, M, .inl uc)), (q 6, .inl (cI, M, .inl fl))] sz) := by
  refine Met.ofW (cc := cX0_passOverArcs) (maxL := 6) (ret := (some .boolean)) (by decide) rfl ?_
  intro p e s m args below meth c s₁ B hml hv
  obtain ⟨rfl, hsz, hP, hK, hD0⟩ := hv
  have hx := B.exec
  have hb := B.bytes
  have hr := B.returns
  have hts := atoms_spec (ws := wsX0_passOverArcs) B.pre
  have hown : s.vm.findClass RX0 = some m.cls := findClass_of_methodNamed B.named
  have hlocks := B.notSynchronized
  subst hsz
  have hD := hD0.self (sz := s.heap.size)
  generalize hAe : va_A [(d0, .inr (0, [.ref d1, .ref d2, .ref (q 1)])), (d1, .inl (cI, N, .inl le)), (d2, .inl (cI, N, .inl fe)), (q 1, .inr (1, [.int (nI N), .ref (q 2), .ref (q 3), .ref (q 4), .ref (q 5), .ref (q 6), .int (nI E)])), (q 2, .inl (cI, M, .inl fr)), (q 3, .inl (cI, M, .inl to)), (q 4, .inl (cI, M, .inl cap)), (q 5, .inl (cI, M, .inl uc)), (q 6, .inl (cI, M, .inl fl))] s.heap.size = A at hD ⊢
  have hA : ∀ q : Nat, s.heap.size ≤ q → A q := fun q h => by rw [← hAe]; exact Or.inr h
  have hS : va_S A s.heap s.heap [] := va_S.rf
  have hP : va_P (dC, dI) vwCl [(d0, .inr (0, [.ref d1, .ref d2, .ref (q 1)])), (d1, .inl (cI, N, .inl le)), (d2, .inl (cI, N, .inl fe)), (q 1, .inr (1, [.int (nI N), .ref (q 2), .ref (q 3), .ref (q 4), .ref (q 5), .ref (q 6), .int (nI E)])), (q 2, .inl (cI, M, .inl fr)), (q 3, .inl (cI, M, .inl to)), (q 4, .inl (cI, M, .inl cap)), (q 5, .inl (cI, M, .inl uc)), (q 6, .inl (cI, M, .inl fl))] s.heap := hP
  have hl := lv_entry ([.ref d0, .int 1]) (n := 6) (Nat.le_of_ble_eq_true rfl)
  rw [lg_entry_eq]
  generalize (lg_sl ([.ref d0, .int 1]) ++ List.replicate (6 - (lg_sl ([.ref d0, .int 1])).length) Slot.unset).toArray = ls at hl ⊢
  have hl : lv_has ls 6 [(0, .ref d0), (1, .int 1)] := hl
  refine lv_iconst (v := 0) hx hb dX0_passOverArcs_0 (by decide) ?_
  refine lv_istore_n (lv' := [(2, .int 0), (0, .ref d0), (1, .int 1)]) hx hb dX0_passOverArcs_1 rfl hl (by decide) rfl (fun ls hl => ?_)
  refine lv_iconst (v := 0) hx hb dX0_passOverArcs_2 (by decide) ?_
  refine tp_i (y := nI 0) nI_0.symm ?_
  refine lv_istore_n (lv' := [(3, .int (nI 0)), (2, .int 0), (0, .ref d0), (1, .int 1)]) hx hb dX0_passOverArcs_3 rfl hl (by decide) rfl (fun ls hl => ?_)
  have lo_a : ∀ (nf : Nat) (i : Nat) (g : Nat → Int32) (h : Nat → Int32) (ch : Int32) (hi : i ≤ 2 * E) (hst : fp_ps true fr to cap uc fl le fe i = (g, h, ch)) (hfu : 2 * E - i < nf) (H : Heap) (locs : List Loc) (hP : va_P (dC, dI) vwCl [(d0, .inr (0, [.ref d1, .ref d2, .ref (q 1)])), (d1, .inl (cI, N, .inl g)), (d2, .inl (cI, N, .inl h)), (q 1, .inr (1, [.int (nI N), .ref (q 2), .ref (q 3), .ref (q 4), .ref (q 5), .ref (q 6), .int (nI E)])), (q 2, .inl (cI, M, .inl fr)), (q 3, .inl (cI, M, .inl to)), (q 4, .inl (cI, M, .inl cap)), (q 5, .inl (cI, M, .inl uc)), (q 6, .inl (cI, M, .inl fl))] H) (hD : va_D A [(d0, .inr (0, [.ref d1, .ref d2, .ref (q 1)])), (d1, .inl (cI, N, .inl g)), (d2, .inl (cI, N, .inl h)), (q 1, .inr (1, [.int (nI N), .ref (q 2), .ref (q 3), .ref (q 4), .ref (q 5), .ref (q 6), .int (nI E)])), (q 2, .inl (cI, M, .inl fr)), (q 3, .inl (cI, M, .inl to)), (q 4, .inl (cI, M, .inl cap)), (q 5, .inl (cI, M, .inl uc)), (q 6, .inl (cI, M, .inl fl))]) (hS : va_S A s.heap H locs) (ls : Array Slot) (hl : lv_has ls 6 [(0, .ref d0), (1, .int 1), (2, .int ch), (3, .int (nI i))]), W p l e (headSpec wsX0_passOverArcs ({ frames := 2, cells := 0, slots := 0, locals := 42 })).room s m ([.ref d0, .int 1] : List Value).toArray below meth c H locs 0 0 (MQ below (va_Qi (fun (r : Int32) (u_ : Unit) => r = (fp_ps true fr to cap uc fl le fe (2 * E)).2.2) (fun (u_ : Unit) (t : State) => va_P (dC, dI) vwCl [(d0, .inr (0, [.ref d1, .ref d2, .ref (q 1)])), (d1, .inl (cI, N, .inl ((fp_ps true fr to cap uc fl le fe (2 * E)).1))), (d2, .inl (cI, N, .inl ((fp_ps true fr to cap uc fl le fe (2 * E)).2.1))), (q 1, .inr (1, [.int (nI N), .ref (q 2), .ref (q 3), .ref (q 4), .ref (q 5), .ref (q 6), .int (nI E)])), (q 2, .inl (cI, M, .inl fr)), (q 3, .inl (cI, M, .inl to)), (q 4, .inl (cI, M, .inl cap)), (q 5, .inl (cI, M, .inl uc)), (q 6, .inl (cI, M, .inl fl))] t.heap ∧ va_K (dC, dI) vwCl [(cI, .int), (cJ, .long), (cZ, .boolean)] t ∧ va_D A [(d0, .inr (0, [.ref d1, .ref d2, .ref (q 1)])), (d1, .inl (cI, N, .inl ((fp_ps true fr to cap uc fl le fe (2 * E)).1))), (d2, .inl (cI, N, .inl ((fp_ps true fr to cap uc fl le fe (2 * E)).2.1))), (q 1, .inr (1, [.int (nI N), .ref (q 2), .ref (q 3), .ref (q 4), .ref (q 5), .ref (q 6), .int (nI E)])), (q 2, .inl (cI, M, .inl fr)), (q 3, .inl (cI, M, .inl to)), (q 4, .inl (cI, M, .inl cap)), (q 5, .inl (cI, M, .inl uc)), (q 6, .inl (cI, M, .inl fl))]) A) ([.ref d0, .int 1] : List Value).toArray s 0 0 A) (F0 m 4 ls [])
    := by
    intro nf
    induction nf with
    | zero => intro i g h ch hi hst hfu H locs hP hD hS ls hl; exact absurd hfu (Nat.not_lt_zero _)
    | succ nf ih_a =>
      intro i g h ch hi hst hfu H locs hP hD hS ls hl
      refine lv_iload_n hx hb dX0_passOverArcs_4 rfl (lv_at hl 3 rfl) ?_
      refine lv_aload_n hx hb dX0_passOverArcs_5 rfl (lv_at hl 0 rfl) ?_
      refine va_get (D := (dC, dI)) (ci := 0) (v := .ref (q 1)) (C := RX0) (T := TX0) (N := 3) hx hb hts fa_passT_0 hown hK hP 0 rfl rfl 2 (by decide) (hts _ fa_passT_1) (fun _ h9 => h9) rfl dX0_passOverArcs_6 ?_
      have hPc := hP.sub (ws' := [(q 1, .inr (1, [.int (nI N), .ref (q 2), .ref (q 3), .ref (q 4), .ref (q 5), .ref (q 6), .int (nI E)])), (q 2, .inl (cI, M, .inl fr)), (q 3, .inl (cI, M, .inl to)), (q 4, .inl (cI, M, .inl cap)), (q 5, .inl (cI, M, .inl uc)), (q 6, .inl (cI, M, .inl fl))]) [3, 4, 5, 6, 7, 8] rfl
      refine vp_callSi (W.runV (As := []) (rest := [.int (nI i)]) ⟨hx, hb, hml, hown, hts⟩ (k_arcs l dC dI cI cJ cZ q N M E fr to cap uc fl) (cwV 0 hts gX0_passOverArcs_X1_arcs rfl rfl rfl (by decide +kernel) ⟨Nat.le_of_ble_eq_true rfl, Nat.le_of_ble_eq_true rfl⟩) ⟨fun a U g mk q => by obtain ⟨q0, qP, qK⟩ := q; exact ⟨q0, qP, va_K.moved (u := U) (U := U.calling g mk a) (Vm.Alike.refl U.vm) qK⟩, va_recv hK hP (ci := 1) (q0 := 3) rfl rfl, fun U hU hW => ⟨rfl, by rw [hU]; exact hPc, va_K.moved hW.alike hK⟩⟩ rfl rfl hl.1 rfl (lv_room (Nat.le_of_ble_eq_true rfl)) dX0_passOverArcs_9 ⟨Nat.le_of_ble_eq_true rfl, Nat.le_of_ble_eq_true rfl⟩) (fun r_9 hw_9 => ?_)
      subst hw_9
      refine lv_icmp_ge (tgt := 130) hx hb dX0_passOverArcs_12 (by decide) (fun c_12 => ?_) (fun c_12 => ?_)
      · have hge := ix_ge (by omega) (by omega) c_12
        obtain rfl : i = 2 * E := by omega
        refine lv_iload_n hx hb dX0_passOverArcs_130 rfl (lv_at hl 2 rfl) ?_
        have hP := va_P_conI hP 1 (g := (fp_ps true fr to cap uc fl le fe (2 * E)).1) rfl (fun j _ => by first | (rw [hst]; done) | (rw [hst]; rfl))
        have hD := va_D_con hD 1 (e1 := .inl (cI, N, .inl ((fp_ps true fr to cap uc fl le fe (2 * E)).1))) rfl
        have hP := va_P_conI hP 2 (g := (fp_ps true fr to cap uc fl le fe (2 * E)).2.1) rfl (fun j _ => by first | (rw [hst]; done) | (rw [hst]; rfl))
        have hD := va_D_con hD 2 (e1 := .inl (cI, N, .inl ((fp_ps true fr to cap uc fl le fe (2 * E)).2.1))) rfl
        have hP9 := hP.sub (ws' := [(d0, .inr (0, [.ref d1, .ref d2, .ref (q 1)])), (d1, .inl (cI, N, .inl ((fp_ps true fr to cap uc fl le fe (2 * E)).1))), (d2, .inl (cI, N, .inl ((fp_ps true fr to cap uc fl le fe (2 * E)).2.1))), (q 1, .inr (1, [.int (nI N), .ref (q 2), .ref (q 3), .ref (q 4), .ref (q 5), .ref (q 6), .int (nI E)])), (q 2, .inl (cI, M, .inl fr)), (q 3, .inl (cI, M, .inl to)), (q 4, .inl (cI, M, .inl cap)), (q 5, .inl (cI, M, .inl uc)), (q 6, .inl (cI, M, .inl fl))]) [0, 1, 2, 3, 4, 5, 6, 7, 8] rfl
        have hD9 := hD.sub (ws' := [(d0, .inr (0, [.ref d1, .ref d2, .ref (q 1)])), (d1, .inl (cI, N, .inl ((fp_ps true fr to cap uc fl le fe (2 * E)).1))), (d2, .inl (cI, N, .inl ((fp_ps true fr to cap uc fl le fe (2 * E)).2.1))), (q 1, .inr (1, [.int (nI N), .ref (q 2), .ref (q 3), .ref (q 4), .ref (q 5), .ref (q 6), .int (nI E)])), (q 2, .inl (cI, M, .inl fr)), (q 3, .inl (cI, M, .inl to)), (q 4, .inl (cI, M, .inl cap)), (q 5, .inl (cI, M, .inl uc)), (q 6, .inl (cI, M, .inl fl))]) [0, 1, 2, 3, 4, 5, 6, 7, 8] (by decide) rfl
        exact W.zret (v := ch) hx hb hr (nb01 (by have h9 := fp_ps_ch true fr to cap uc fl le fe (2 * E); rw [hst] at h9; exact h9)) (fun t ht hW => ⟨⟨ch, (), rfl, (by rw [hst]), by rw [ht]; exact hP9, va_K.moved hW.alike hK, hD9⟩, hS.F ht⟩) hS.2.2 dX0_passOverArcs_131
      · have hlt := ix_lt (by omega) (by omega) c_12
        have hbi := bg_in hfr hto hlt
        have hei := en_in hfr hto hlt
        refine lv_aload_n hx hb dX0_passOverArcs_15 rfl (lv_at hl 0 rfl) ?_
        refine va_get (D := (dC, dI)) (ci := 0) (v := .ref (q 1)) (C := RX0) (T := TX0) (N := 3) hx hb hts fa_passT_0 hown hK hP 0 rfl rfl 2 (by decide) (hts _ fa_passT_1) (fun _ h9 => h9) rfl dX0_passOverArcs_16 ?_
        refine lv_iload_n hx hb dX0_passOverArcs_19 rfl (lv_at hl 3 rfl) ?_
        have hPc := hP.sub (ws' := [(q 1, .inr (1, [.int (nI N), .ref (q 2), .ref (q 3), .ref (q 4), .ref (q 5), .ref (q 6), .int (nI E)])), (q 2, .inl (cI, M, .inl fr)), (q 3, .inl (cI, M, .inl to)), (q 4, .inl (cI, M, .inl cap)), (q 5, .inl (cI, M, .inl uc)), (q 6, .inl (cI, M, .inl fl))]) [3, 4, 5, 6, 7, 8] rfl
        refine vp_callSi (W.runV (As := [.int (nI i)]) (rest := []) ⟨hx, hb, hml, hown, hts⟩ (k_left l dC dI cI cJ cZ q N M E fr to cap uc fl i (by omega) hM) (cwV 1 hts gX0_passOverArcs_X1_left rfl rfl rfl (by decide +kernel) ⟨Nat.le_of_ble_eq_true rfl, Nat.le_of_ble_eq_true rfl⟩) ⟨fun a U g mk q => by obtain ⟨q0, qP, qK⟩ := q; exact ⟨q0, qP, va_K.moved (u := U) (U := U.calling g mk a) (Vm.Alike.refl U.vm) qK⟩, va_recv hK hP (ci := 1) (q0 := 3) rfl rfl, fun U hU hW => ⟨rfl, by rw [hU]; exact hPc, va_K.moved hW.alike hK⟩⟩ rfl rfl hl.1 rfl (lv_room (Nat.le_of_ble_eq_true rfl)) dX0_passOverArcs_20 ⟨Nat.le_of_ble_eq_true rfl, Nat.le_of_ble_eq_true rfl⟩) (fun r_20 hw_20 => ?_)
        subst hw_20
        refine lv_if_gt (tgt := 29) hx hb dX0_passOverArcs_23 (by decide) (fun c_23 => ?_) (fun c_23 => ?_)
        · refine lv_iload_n hx hb dX0_passOverArcs_29 rfl (lv_at hl 1 rfl) ?_
          refine lv_if_eq (tgt := 44) hx hb dX0_passOverArcs_30 (by decide) (fun c_30 => ?_) (fun c_30 => ?_)
          · exact absurd c_30 (by decide)
          · refine lv_aload_n hx hb dX0_passOverArcs_33 rfl (lv_at hl 0 rfl) ?_
            refine va_get (D := (dC, dI)) (ci := 0) (v := .ref (q 1)) (C := RX0) (T := TX0) (N := 3) hx hb hts fa_passT_0 hown hK hP 0 rfl rfl 2 (by decide) (hts _ fa_passT_1) (fun _ h9 => h9) rfl dX0_passOverArcs_34 ?_
            refine lv_iload_n hx hb dX0_passOverArcs_37 rfl (lv_at hl 3 rfl) ?_
            have hPc := hP.sub (ws' := [(q 1, .inr (1, [.int (nI N), .ref (q 2), .ref (q 3), .ref (q 4), .ref (q 5), .ref (q 6), .int (nI E)])), (q 2, .inl (cI, M, .inl fr)), (q 3, .inl (cI, M, .inl to)), (q 4, .inl (cI, M, .inl cap)), (q 5, .inl (cI, M, .inl uc)), (q 6, .inl (cI, M, .inl fl))]) [3, 4, 5, 6, 7, 8] rfl
            refine vp_callSi (W.runV (As := [.int (nI i)]) (rest := []) ⟨hx, hb, hml, hown, hts⟩ (k_end l dC dI cI cJ cZ q N M E fr to cap uc fl i (by omega) hM) (cwV 1 hts gX0_passOverArcs_X1_end rfl rfl rfl (by decide +kernel) ⟨Nat.le_of_ble_eq_true rfl, Nat.le_of_ble_eq_true rfl⟩) ⟨fun a U g mk q => by obtain ⟨q0, qP, qK⟩ := q; exact ⟨q0, qP, va_K.moved (u := U) (U := U.calling g mk a) (Vm.Alike.refl U.vm) qK⟩, va_recv hK hP (ci := 1) (q0 := 3) rfl rfl, fun U hU hW => ⟨rfl, by rw [hU]; exact hPc, va_K.moved hW.alike hK⟩⟩ rfl rfl hl.1 rfl (lv_room (Nat.le_of_ble_eq_true rfl)) dX0_passOverArcs_38 ⟨Nat.le_of_ble_eq_true rfl, Nat.le_of_ble_eq_true rfl⟩) (fun r_38 hw_38 => ?_)
            subst hw_38
            refine lv_goto (tgt := 52) hx hb dX0_passOverArcs_41 (by decide) ?_
            refine lv_istore (lv' := [(4, .int (fp_en fr to i)), (0, .ref d0), (1, .int 1), (2, .int ch), (3, .int (nI i))]) hx hb dX0_passOverArcs_52 hl (by decide) rfl (fun ls hl => ?_)
            refine lv_iload_n hx hb dX0_passOverArcs_54 rfl (lv_at hl 2 rfl) ?_
            refine lv_if_eq (tgt := 69) hx hb dX0_passOverArcs_55 (by decide) (fun c_55 => ?_) (fun c_55 => ?_)
            · exact absurd c_55 (by decide)
            · refine lv_aload_n hx hb dX0_passOverArcs_58 rfl (lv_at hl 1 rfl) ?_
              refine va_get (D := (dC, dI)) (ci := 0) (v := .ref (q 1)) (C := RX0) (T := TX0) (N := 3) hx hb hts fa_passT_0 hown hK hP 0 rfl rfl 2 (by decide) (hts _ fa_passT_1) (fun _ h9 => h9) rfl dX0_passOverArcs_59 ?_
              refine lv_iload_n hx hb dX0_passOverArcs_62 rfl (lv_at hl 4 rfl) ?_
              have hPc := hP.sub (ws' := [(q 1, .inr (1, [.int (nI N), .ref (q 2), .ref (q 3), .ref (q 4), .ref (q 5), .ref (q 6), .int (nI E)])), (q 2, .inl (cI, M, .inl fr)), (q 3, .inl (cI, M, .inl to)), (q 4, .inl (cI, M, .inl cap)), (q 5, .inl (cI, M, .inl uc)), (q 6, .inl (cI, M, .inl fl))]) [3, 4, 5, 6, 7, 8] rfl
              refine vp_callSi (W.runV (As := [.int (nI i)]) (rest := []) ⟨hx, hb, hml, hown, hts⟩ (k_begin l dC dI cI cJ cZ q N M E fr to cap uc fl i (by omega) hM) (cwV 1 hts gX0_passOverArcs_X1_begin rfl rfl rfl (by decide +kernel) ⟨Nat.le_of_ble_eq_true rfl, Nat.le_of_ble_eq_true rfl⟩) ⟨fun a U g mk q => by obtain ⟨q0, qP, qK⟩ := q; exact ⟨q0, qP, va_K.moved (u := U) (U := U.calling g mk a) (Vm.Alike.refl U.vm) qK⟩, va_recv hK hP (ci := 1) (q0 := 3) rfl rfl, fun U hU hW => ⟨rfl, by rw [hU]; exact hPc, va_K.moved hW.alike hK⟩⟩ rfl rfl hl.1 rfl (lv_room (Nat.le_of_ble_eq_true rfl)) dX0_passOverArcs_63 ⟨Nat.le_of_ble_eq_true rfl, Nat.le_of_ble_eq_true rfl⟩) (fun r_63 hw_63 => ?_)
              subst hw_63
              refine lv_goto (tgt := 77) hx hb dX0_passOverArcs_66 (by decide) ?_
              refine lv_istore (lv' := [(5, .int (fp_bg fr to i)), (4, .int (fp_en fr to i)), (0, .ref d0), (1, .int 1), (2, .int ch), (3, .int (nI i))]) hx hb dX0_passOverArcs_77 hl (by decide) rfl (fun ls hl => ?_)
              refine lv_aload_n hx hb dX0_passOverArcs_79 rfl (lv_at hl 2 rfl) ?_
              refine lv_iload hx hb dX0_passOverArcs_80 (lv_at hl 1 rfl) ?_
              have hPc := hP.sub (ws' := [(d0, .inr (0, [.ref d1, .ref d2, .ref (q 1)])), (d1, .inl (cI, N, .inl g)), (d2, .inl (cI, N, .inl h))]) [0, 1, 2] rfl
              refine vp_callSi (W.runV (As := [.int (fp_en fr to i)]) (rest := []) ⟨hx, hb, hml, hown, hts⟩ (k_reaches l dC dI cI cJ cZ d0 d1 d2 q N g h (fp_en fr to i) (by assumption)) (cwV 1 hts gX0_passOverArcs_X0_reaches rfl rfl rfl (by decide +kernel) ⟨Nat.le_of_ble_eq_true rfl, Nat.le_of_ble_eq_true rfl⟩) ⟨fun a U g mk q => by obtain ⟨q0, qP, qK⟩ := q; exact ⟨q0, qP, va_K.moved (u := U) (U := U.calling g mk a) (Vm.Alike.refl U.vm) qK⟩, va_recv hK hP (ci := 0) (q0 := 0) rfl rfl, fun U hU hW => ⟨rfl, by rw [hU]; exact hPc, va_K.moved hW.alike hK⟩⟩ rfl rfl hl.1 rfl (lv_room (Nat.le_of_ble_eq_true rfl)) dX0_passOverArcs_82 ⟨Nat.le_of_ble_eq_true rfl, Nat.le_of_ble_eq_true rfl⟩) (fun r_82 hw_82 => ?_)
              subst hw_82
              refine lv_if_eq (tgt := 124) hx hb dX0_passOverArcs_85 (by decide) (fun c_85 => ?_) (fun c_85 => ?_)
              · refine lv_iinc (v := nI (i + 1)) (lv' := [(3, .int (nI (i + 1))), (5, .int (fp_bg fr to i)), (4, .int (fp_en fr to i)), (0, .ref d0), (1, .int 1), (2, .int ch)]) hx hb dX0_passOverArcs_124 hl (k := 5) rfl (by first | exact nI_1 _ | exact nI_add _ _) (by decide) rfl (fun ls hl => ?_)
                refine lv_goto (tgt := 4) hx hb dX0_passOverArcs_127 (by decide) ?_
                exact ih_a (i + 1) g h ch (by first | assumption | omega | rfl) (by rw [fp_ps, hst]; first | exact rx_a c_23 | exact rx_b c_23 (rch0 c_85) | exact rx_c0 c_23 (rch1 c_85) c_119 | exact rx_c1 c_23 (rch1 c_85) c_119) (by omega) _ _ hP hD hS _ (lv_sub hl [3, 4, 5, 0] rfl)
              · refine lv_aload_n hx hb dX0_passOverArcs_88 rfl (lv_at hl 2 rfl) ?_
                refine lv_iload hx hb dX0_passOverArcs_89 (lv_at hl 0 rfl) ?_
                refine lv_aload_n hx hb dX0_passOverArcs_91 rfl (lv_at hl 2 rfl) ?_
                refine va_get (D := (dC, dI)) (ci := 0) (v := .ref d1) (C := RX0) (T := TX0) (N := 3) hx hb hts fa_passT_0 hown hK hP 0 rfl rfl 0 (by decide) (hts _ fa_passT_2) (fun _ h9 => h9) rfl dX0_passOverArcs_92 ?_
                refine lv_iload hx hb dX0_passOverArcs_95 (lv_at hl 1 rfl) ?_
                refine va_iald (D := (dC, dI)) hx hb hK hP 1 0 rfl rfl (by first | assumption | exact vp_in_nI (by omega) (by omega)) dX0_passOverArcs_97 ?_
                refine lv_aload_n hx hb dX0_passOverArcs_98 rfl (lv_at hl 2 rfl) ?_
                refine va_get (D := (dC, dI)) (ci := 0) (v := .ref (q 1)) (C := RX0) (T := TX0) (N := 3) hx hb hts fa_passT_0 hown hK hP 0 rfl rfl 2 (by decide) (hts _ fa_passT_1) (fun _ h9 => h9) rfl dX0_passOverArcs_99 ?_
                refine lv_iload_n hx hb dX0_passOverArcs_102 rfl (lv_at hl 5 rfl) ?_
                have hPc := hP.sub (ws' := [(q 1, .inr (1, [.int (nI N), .ref (q 2), .ref (q 3), .ref (q 4), .ref (q 5), .ref (q 6), .int (nI E)])), (q 2, .inl (cI, M, .inl fr)), (q 3, .inl (cI, M, .inl to)), (q 4, .inl (cI, M, .inl cap)), (q 5, .inl (cI, M, .inl uc)), (q 6, .inl (cI, M, .inl fl))]) [3, 4, 5, 6, 7, 8] rfl
                refine vp_callSi (W.runV (As := [.int (nI i)]) (rest := [.int (g (fp_en fr to i).toNatClampNeg), .int (fp_bg fr to i), .ref d0]) ⟨hx, hb, hml, hown, hts⟩ (k_price l dC dI cI cJ cZ q N M E fr to cap uc fl i (by omega) hM) (cwV 1 hts gX0_passOverArcs_X1_price rfl rfl rfl (by decide +kernel) ⟨Nat.le_of_ble_eq_true rfl, Nat.le_of_ble_eq_true rfl⟩) ⟨fun a U g mk q => by obtain ⟨q0, qP, qK⟩ := q; exact ⟨q0, qP, va_K.moved (u := U) (U := U.calling g mk a) (Vm.Alike.refl U.vm) qK⟩, va_recv hK hP (ci := 1) (q0 := 3) rfl rfl, fun U hU hW => ⟨rfl, by rw [hU]; exact hPc, va_K.moved hW.alike hK⟩⟩ rfl rfl hl.1 rfl (lv_room (Nat.le_of_ble_eq_true rfl)) dX0_passOverArcs_103 ⟨Nat.le_of_ble_eq_true rfl, Nat.le_of_ble_eq_true rfl⟩) (fun r_103 hw_103 => ?_)
                subst hw_103
                refine lv_iadd hx hb dX0_passOverArcs_106 ?_
                refine lv_aload_n hx hb dX0_passOverArcs_107 rfl (lv_at hl 2 rfl) ?_
                refine va_get (D := (dC, dI)) (ci := 0) (v := .ref d2) (C := RX0) (T := TX0) (N := 3) hx hb hts fa_passT_0 hown hK hP 0 rfl rfl 1 (by decide) (hts _ fa_passT_3) (fun _ h9 => h9) rfl dX0_passOverArcs_108 ?_
                refine lv_iload hx hb dX0_passOverArcs_111 (lv_at hl 1 rfl) ?_
                refine va_iald (D := (dC, dI)) hx hb hK hP 2 0 rfl rfl (by first | assumption | exact vp_in_nI (by omega) (by omega)) dX0_passOverArcs_113 ?_
                refine lv_iconst (v := 1) hx hb dX0_passOverArcs_114 (by decide) ?_
                refine lv_iadd hx hb dX0_passOverArcs_115 ?_
                have hPc := hP.sub (ws' := [(d0, .inr (0, [.ref d1, .ref d2, .ref (q 1)])), (d1, .inl (cI, N, .inl g)), (d2, .inl (cI, N, .inl h))]) [0, 1, 2] rfl
                have hDc := hD.sub (ws' := [(d0, .inr (0, [.ref d1, .ref d2, .ref (q 1)])), (d1, .inl (cI, N, .inl g)), (d2, .inl (cI, N, .inl h))]) [0, 1, 2] (by decide) rfl
                have hFc := va_free (wc := [(d0, .inr (0, [.ref d1, .ref d2, .ref (q 1)])), (d1, .inl (cI, N, .inl g)), (d2, .inl (cI, N, .inl h))]) hD hS hA [0, 1, 2] rfl
                refine va_calli (va_runV (As := [.int (fp_bg fr to i), .int ((g (fp_en fr to i).toNatClampNeg) + (fp_pr uc i)), .int ((h (fp_en fr to i).toNatClampNeg) + 1)]) (rest := []) ⟨hx, hb, hml, hown, hts⟩ (k_shorten l dC dI cI cJ cZ d0 d1 d2 q N g h (fp_bg fr to i) ((g (fp_en fr to i).toNatClampNeg) + (fp_pr uc i)) ((h (fp_en fr to i).toNatClampNeg) + 1) H.size (by assumption)) (cwV 3 hts gX0_passOverArcs_X0_shorten rfl rfl rfl (by decide +kernel) ⟨Nat.le_of_ble_eq_true rfl, Nat.le_of_ble_eq_true rfl⟩) ⟨fun a U g mk q => by obtain ⟨q0, q1, qP, qK, qD⟩ := q; exact ⟨q0, q1, qP, va_K.moved (u := U) (U := U.calling g mk a) (Vm.Alike.refl U.vm) qK, qD⟩, va_recv hK hP (ci := 0) (q0 := 0) rfl rfl, fun U hU hW => ⟨rfl, by rw [hU], by rw [hU]; exact hPc, va_K.moved hW.alike hK, hDc.weaken (fun _ _ _ _ => trivial)⟩⟩ rfl rfl hl.1 rfl (lv_room (Nat.le_of_ble_eq_true rfl)) dX0_passOverArcs_116 ⟨Nat.le_of_ble_eq_true rfl, Nat.le_of_ble_eq_true rfl⟩) hS (fun q _ h => hFc q h) hFc (fun r_116 u t H1 locs ht hvm hw_116 hB hz1 hk1 hS => ?_)
                obtain ⟨hP1, hK1, hD1⟩ := hB
                rw [ht] at hP1
                obtain ⟨hP, hD⟩ := va_join (wr := [(q 1, .inr (1, [.int (nI N), .ref (q 2), .ref (q 3), .ref (q 4), .ref (q 5), .ref (q 6), .int (nI E)])), (q 2, .inl (cI, M, .inl fr)), (q 3, .inl (cI, M, .inl to)), (q 4, .inl (cI, M, .inl cap)), (q 5, .inl (cI, M, .inl uc)), (q 6, .inl (cI, M, .inl fl))]) (w1 := [(d0, .inr (0, [.ref d1, .ref d2, .ref (q 1)])), (d1, .inl (cI, N, .inl (fp_sle g h ((fp_bg fr to i).toNatClampNeg) ((g (fp_en fr to i).toNatClampNeg) + (fp_pr uc i)) ((h (fp_en fr to i).toNatClampNeg) + 1)))), (d2, .inl (cI, N, .inl (fp_sfe g h ((fp_bg fr to i).toNatClampNeg) ((g (fp_en fr to i).toNatClampNeg) + (fp_pr uc i)) ((h (fp_en fr to i).toNatClampNeg) + 1))))]) hP hD [0, 1, 2] [3, 4, 5, 6, 7, 8] rfl rfl (by decide) (by decide) hk1 hFc hP1 hD1
                generalize H1 = H at hP hS ⊢
                have hP := hP.sub (ws' := [(d0, .inr (0, [.ref d1, .ref d2, .ref (q 1)])), (d1, .inl (cI, N, .inl (fp_sle g h ((fp_bg fr to i).toNatClampNeg) ((g (fp_en fr to i).toNatClampNeg) + (fp_pr uc i)) ((h (fp_en fr to i).toNatClampNeg) + 1)))), (d2, .inl (cI, N, .inl (fp_sfe g h ((fp_bg fr to i).toNatClampNeg) ((g (fp_en fr to i).toNatClampNeg) + (fp_pr uc i)) ((h (fp_en fr to i).toNatClampNeg) + 1)))), (q 1, .inr (1, [.int (nI N), .ref (q 2), .ref (q 3), .ref (q 4), .ref (q 5), .ref (q 6), .int (nI E)])), (q 2, .inl (cI, M, .inl fr)), (q 3, .inl (cI, M, .inl to)), (q 4, .inl (cI, M, .inl cap)), (q 5, .inl (cI, M, .inl uc)), (q 6, .inl (cI, M, .inl fl))]) [6, 7, 8, 0, 1, 2, 3, 4, 5] rfl
                have hD := hD.sub (ws' := [(d0, .inr (0, [.ref d1, .ref d2, .ref (q 1)])), (d1, .inl (cI, N, .inl (fp_sle g h ((fp_bg fr to i).toNatClampNeg) ((g (fp_en fr to i).toNatClampNeg) + (fp_pr uc i)) ((h (fp_en fr to i).toNatClampNeg) + 1)))), (d2, .inl (cI, N, .inl (fp_sfe g h ((fp_bg fr to i).toNatClampNeg) ((g (fp_en fr to i).toNatClampNeg) + (fp_pr uc i)) ((h (fp_en fr to i).toNatClampNeg) + 1)))), (q 1, .inr (1, [.int (nI N), .ref (q 2), .ref (q 3), .ref (q 4), .ref (q 5), .ref (q 6), .int (nI E)])), (q 2, .inl (cI, M, .inl fr)), (q 3, .inl (cI, M, .inl to)), (q 4, .inl (cI, M, .inl cap)), (q 5, .inl (cI, M, .inl uc)), (q 6, .inl (cI, M, .inl fl))]) [6, 7, 8, 0, 1, 2, 3, 4, 5] (by decide) rfl
                obtain rfl := hw_116
                refine lv_if_eq (tgt := 124) hx hb dX0_passOverArcs_119 (by decide) (fun c_119 => ?_) (fun c_119 => ?_)
                · refine lv_iinc (v := nI (i + 1)) (lv' := [(3, .int (nI (i + 1))), (5, .int (fp_bg fr to i)), (4, .int (fp_en fr to i)), (0, .ref d0), (1, .int 1), (2, .int ch)]) hx hb dX0_passOverArcs_124 hl (k := 5) rfl (by first | exact nI_1 _ | exact nI_add _ _) (by decide) rfl (fun ls hl => ?_)
                  refine lv_goto (tgt := 4) hx hb dX0_passOverArcs_127 (by decide) ?_
                  exact ih_a (i + 1) (fp_sle g h ((fp_bg fr to i).toNatClampNeg) ((g (fp_en fr to i).toNatClampNeg) + (fp_pr uc i)) ((h (fp_en fr to i).toNatClampNeg) + 1)) (fp_sfe g h ((fp_bg fr to i).toNatClampNeg) ((g (fp_en fr to i).toNatClampNeg) + (fp_pr uc i)) ((h (fp_en fr to i).toNatClampNeg) + 1)) ch (by first | assumption | omega | rfl) (by rw [fp_ps, hst]; first | exact rx_a c_23 | exact rx_b c_23 (rch0 c_85) | exact rx_c0 c_23 (rch1 c_85) c_119 | exact rx_c1 c_23 (rch1 c_85) c_119) (by omega) _ _ hP hD hS _ (lv_sub hl [3, 4, 5, 0] rfl)
                · refine lv_iconst (v := 1) hx hb dX0_passOverArcs_122 (by decide) ?_
                  refine lv_istore_n (lv' := [(2, .int 1), (5, .int (fp_bg fr to i)), (4, .int (fp_en fr to i)), (0, .ref d0), (1, .int 1), (3, .int (nI i))]) hx hb dX0_passOverArcs_123 rfl hl (by decide) rfl (fun ls hl => ?_)
                  refine lv_iinc (v := nI (i + 1)) (lv' := [(3, .int (nI (i + 1))), (2, .int 1), (5, .int (fp_bg fr to i)), (4, .int (fp_en fr to i)), (0, .ref d0), (1, .int 1)]) hx hb dX0_passOverArcs_124 hl (k := 5) rfl (by first | exact nI_1 _ | exact nI_add _ _) (by decide) rfl (fun ls hl => ?_)
                  refine lv_goto (tgt := 4) hx hb dX0_passOverArcs_127 (by decide) ?_
                  exact ih_a (i + 1) (fp_sle g h ((fp_bg fr to i).toNatClampNeg) ((g (fp_en fr to i).toNatClampNeg) + (fp_pr uc i)) ((h (fp_en fr to i).toNatClampNeg) + 1)) (fp_sfe g h ((fp_bg fr to i).toNatClampNeg) ((g (fp_en fr to i).toNatClampNeg) + (fp_pr uc i)) ((h (fp_en fr to i).toNatClampNeg) + 1)) 1 (by first | assumption | omega | rfl) (by rw [fp_ps, hst]; first | exact rx_a c_23 | exact rx_b c_23 (rch0 c_85) | exact rx_c0 c_23 (rch1 c_85) c_119 | exact rx_c1 c_23 (rch1 c_85) c_119) (by omega) _ _ hP hD hS _ (lv_sub hl [4, 5, 1, 0] rfl)
        · refine lv_goto (tgt := 124) hx hb dX0_passOverArcs_26 (by decide) ?_
          refine lv_iinc (v := nI (i + 1)) (lv' := [(3, .int (nI (i + 1))), (0, .ref d0), (1, .int 1), (2, .int ch)]) hx hb dX0_passOverArcs_124 hl (k := 3) rfl (by first | exact nI_1 _ | exact nI_add _ _) (by decide) rfl (fun ls hl => ?_)
          refine lv_goto (tgt := 4) hx hb dX0_passOverArcs_127 (by decide) ?_
          exact ih_a (i + 1) g h ch (by first | assumption | omega | rfl) (by rw [fp_ps, hst]; first | exact rx_a c_23 | exact rx_b c_23 (rch0 c_85) | exact rx_c0 c_23 (rch1 c_85) c_119 | exact rx_c1 c_23 (rch1 c_85) c_119) (by omega) _ _ hP hD hS _ (lv_sub hl [1, 2, 3, 0] rfl)
  exact lo_a (2 * E - 0 + 1) 0 le fe 0 (by first | assumption | omega | rfl) rfl (by omega) _ _ hP hD hS _ (lv_sub hl [2, 3, 1, 0] rfl)

theorem fa_settleF_0 : ∀ w ∈ wsX00, w ∈ wsX0_settle := by decide +kernel
theorem fa_settleF_1 : Cond.fieldLink RX0 9 "FlowProofs$Distances" "net" "LFlowProofs$Net;" ∈ wsX0_settle := by decide +kernel
theorem fa_settleF_2 : ∀ w ∈ wsX10, w ∈ wsX0_settle := by decide +kernel
theorem fa_settleF_3 : Cond.fieldLink RX0 15 "FlowProofs$Net" "nodes" "I" ∈ wsX0_settle := by decide +kernel
set_option maxHeartbeats 4000000 in
set_option maxRecDepth 100000 in
theorem k_settleF (l : Launch) (dC : Nat → ClassId) (dI : Nat → Nat → Nat) (cI cJ cZ : ClassId) (d0 d1 d2 : Nat) (q : Nat → Nat) (N M E : Nat) (fr to cap uc fl : Nat → Int32) (le fe : Nat → Int32) (sz : Nat) (hE : E ≤ M) (hM : M < 1000) (hN : N < 1000) (hfr : ∀ e, e < E → vp_in (fr e) N) (hto : ∀ e, e < E → vp_in (to e) N) : Met l yX0_settle wsX0_settle ({ frames := 3, cells := 0, slots := 0, locals := 67 }) (va_Pc [.ref d0, .int 0] (fun U => U.heap.size = sz ∧ va_P (dC, dI) vwCl [(d0, .inr (0, [.ref d1, .ref d2, .ref (q 1)])), (d1, .inl (cI, N, .inl le)), (d2, .inl (cI, N, .inl fe)), (q 1, .inr (1, [.int (nI N), .ref (q 2), .ref (q 3), .ref (q 4), .ref (q 5), .ref (q 6), .int (nI E)])), (q 2, .inl (cI, M, .inl fr)), (q 3, .inl (cI, M, .inl to)), (q 4, .inl (cI, M, .inl cap)), (q 5, .inl (cI, M, .inl uc)), (q 6, .inl (cI, M, .inl fl))] U.heap ∧ va_K (dC, dI) vwCl [(cI, .int), (cJ, .long), (cZ, .boolean)] U ∧ va_D (fun _ => True) [(d0, .inr (0, [.ref d1, .ref d2, .ref (q 1)])), (d1, .inl (cI, N, .inl le)), (d2, .inl (cI, N, .inl fe)), (q 1, .inr (1, [.int (nI N), .ref (q 2), .ref (q 3), .ref (q 4), .ref (q 5), .ref (q 6), .int (nI E)])), (q 2, .inl (cI, M, .inl fr)), (q 3, .inl (cI, M, .inl to)), (q 4, .inl (cI, M, .inl cap)), (q 5, .inl (cI, M, .inl uc)), (q 6, .inl (cI, M, .inl fl))])) (va_Qi (fun (r : Int32) (u_ : Unit) => r = (fp_se false fr to cap uc fl (2 * E) N le fe).2.2) (fun (u_ : Unit) (t : State) => va_P (dC, dI) vwCl [(d0, .inr (0, [.ref d1, .ref d2, .ref (q 1)])), (d1, .inl (cI, N, .inl ((fp_se false fr to cap uc fl (2 * E) N le fe).1))), (d2, .inl (cI, N, .inl ((fp_se false fr to cap uc fl (2 * E) N le fe).2.1))), (q 1, .inr (1, [.int (nI N), .ref (q 2), .ref (q 3), .ref (q 4), .ref (q 5), .ref (q 6), .int (nI E)])), (q 2, .inl (cI, M, .inl fr)), (q 3, .inl (cI, M, .inl to)), (q 4, .inl (cI, M, .inl cap)), (q 5, .inl (cI, M, .inl uc)), (q 6, .inl (cI, M, .inl fl))] t.heap ∧ va_K (dC, dI) vwCl [(cI, .int), (cJ, .long), (cZ, .boolean)] t ∧ va_D (va_A [(d0, .inr (0, [.ref d1, .ref d2, .ref (q 1)])), (d1, .inl (cI, N, .inl le)), (d2, .inl (cI, N, .inl fe)), (q 1, .inr (1, [.int (nI N), .ref (q 2), .ref (q 3), .ref (q 4), .ref (q 5), .ref (q 6), .int (nI E)])), (q 2, .inl (cI, M, .inl fr)), (q 3, .inl (cI, M, .inl to)), (q 4, .inl (cI, M, .inl cap)), (q 5, .inl (cI, M, .inl uc)), (q 6, .inl (cI, M, .inl fl))] sz) [(d0, .inr (0, [.ref d1, .ref d2, .ref (q 1)])), (d1, .inl (cI, N, .inl ((fp_se false fr to cap uc fl (2 * E) N le fe).1))), (d2, .inl (cI, N, .inl ((fp_se false fr to cap uc fl (2 * E) N le fe).2.1))), (q 1, .inr (1, [.int (nI N), .ref (q 2), .ref (q 3), .ref (q 4), .ref (q 5), .ref (q 6), .int (nI E)])), (q 2, .inl (cI, M, .inl fr)), (q 3, .inl (cI, M, .inl to)), (q 4, .inl (cI, M, .inl cap)), (q 5, .inl (cI, M, .inl uc)), (q 6, .inl (cI, M, .inl fl))]) (va_A [(d0, .inr (0, [.ref d1, .ref d2, .ref (q 1)])), (d1, .inl (cI, N, .inl le)), (d2, .inl (cI, N, .inl fe)), (q 1, .inr (1, [.int (nI N), .ref (q 2), .ref (q 3), .ref (q 4), .ref (q 5), .ref (q 6), .int (nI E)])), (q 2, .inl (cI, M, .inl fr)), (q 3, .inl (cI, M, .inl to)), (q 4, .inl (cI, M, .inl cap)), (q 5, .inl (cI, M, .inl uc)), (q 6, .inl (cI, M, .inl fl))] sz)) 0 0 (va_A [(d0, .inr (0, [.ref d1, .ref d2, .ref (q 1)])), (d1, .inl (cI, N, .inl le)), (d2, .inl (cI, N, .inl fe)), (q 1, .inr (1, [.int (nI N), .ref (q 2), .ref (q 3), .ref (q 4), .ref (q 5), .ref (q 6), .int (nI E)])), (q 2, .inl (cI, M, .inl fr)), (q 3, .inl (cI, M, .inl to)), (q 4, .inl (cI, M, .inl cap)), (q 5, .inl (cI, M, .inl uc)), (q 6, .inl (cI, M, .inl fl))] sz) := by
  refine Met.ofW (cc := cX0_settle) (maxL := 3) (ret := (some .boolean)) (by decide) rfl ?_
  intro p e s m args below meth c s₁ B hml hv
  obtain ⟨rfl, hsz, hP, hK, hD0⟩ := hv
  have hx := B.exec
  have hb := B.bytes
  have hr := B.returns
  have hts := atoms_spec (ws := wsX0_settle) B.pre
  have hown : s.vm.findClass RX0 = some m.cls := findClass_of_methodNamed B.named
  have hlocks := B.notSynchronized
  subst hsz
  have hD := hD0.self (sz := s.heap.size)
  generalize hAe : va_A [(d0, .inr (0, [.ref d1, .ref d2, .ref (q 1)])), (d1, .inl (cI, N, .inl le)), (d2, .inl (cI, N, .inl fe)), (q 1, .inr (1, [.int (nI N), .ref (q 2), .ref (q 3), .ref (q 4), .ref (q 5), .ref (q 6), .int (nI E)])), (q 2, .inl (cI, M, .inl fr)), (q 3, .inl (cI, M, .inl to)), (q 4, .inl (cI, M, .inl cap)), (q 5, .inl (cI, M, .inl uc)), (q 6, .inl (cI, M, .inl fl))] s.heap.size = A at hD ⊢
  have hA : ∀ q : Nat, s.heap.size ≤ q → A q := fun q h => by rw [← hAe]; exact Or.inr h
  have hS : va_S A s.heap s.heap [] := va_S.rf
  have hP : va_P (dC, dI) vwCl [(d0, .inr (0, [.ref d1, .ref d2, .ref (q 1)])), (d1, .inl (cI, N, .inl le)), (d2, .inl (cI, N, .inl fe)), (q 1, .inr (1, [.int (nI N), .ref (q 2), .ref (q 3), .ref (q 4), .ref (q 5), .ref (q 6), .int (nI E)])), (q 2, .inl (cI, M, .inl fr)), (q 3, .inl (cI, M, .inl to)), (q 4, .inl (cI, M, .inl cap)), (q 5, .inl (cI, M, .inl uc)), (q 6, .inl (cI, M, .inl fl))] s.heap := hP
  have hl := lv_entry ([.ref d0, .int 0]) (n := 3) (Nat.le_of_ble_eq_true rfl)
  rw [lg_entry_eq]
  generalize (lg_sl ([.ref d0, .int 0]) ++ List.replicate (3 - (lg_sl ([.ref d0, .int 0])).length) Slot.unset).toArray = ls at hl ⊢
  have hl : lv_has ls 3 [(0, .ref d0), (1, .int 0)] := hl
  refine lv_iconst (v := 0) hx hb dX0_settle_0 (by decide) ?_
  refine tp_i (y := nI 0) nI_0.symm ?_
  refine lv_istore_n (lv' := [(2, .int (nI 0)), (0, .ref d0), (1, .int 0)]) hx hb dX0_settle_1 rfl hl (by decide) rfl (fun ls hl => ?_)
  have lo_a : ∀ (nf : Nat) (i : Nat) (g : Nat → Int32) (h : Nat → Int32) (hi : i ≤ N) (hst : fp_se false fr to cap uc fl (2 * E) (N - i) g h = fp_se false fr to cap uc fl (2 * E) N le fe) (hfu : N - i < nf) (H : Heap) (locs : List Loc) (hP : va_P (dC, dI) vwCl [(d0, .inr (0, [.ref d1, .ref d2, .ref (q 1)])), (d1, .inl (cI, N, .inl g)), (d2, .inl (cI, N, .inl h)), (q 1, .inr (1, [.int (nI N), .ref (q 2), .ref (q 3), .ref (q 4), .ref (q 5), .ref (q 6), .int (nI E)])), (q 2, .inl (cI, M, .inl fr)), (q 3, .inl (cI, M, .inl to)), (q 4, .inl (cI, M, .inl cap)), (q 5, .inl (cI, M, .inl uc)), (q 6, .inl (cI, M, .inl fl))] H) (hD : va_D A [(d0, .inr (0, [.ref d1, .ref d2, .ref (q 1)])), (d1, .inl (cI, N, .inl g)), (d2, .inl (cI, N, .inl h)), (q 1, .inr (1, [.int (nI N), .ref (q 2), .ref (q 3), .ref (q 4), .ref (q 5), .ref (q 6), .int (nI E)])), (q 2, .inl (cI, M, .inl fr)), (q 3, .inl (cI, M, .inl to)), (q 4, .inl (cI, M, .inl cap)), (q 5, .inl (cI, M, .inl uc)), (q 6, .inl (cI, M, .inl fl))]) (hS : va_S A s.heap H locs) (ls : Array Slot) (hl : lv_has ls 3 [(0, .ref d0), (1, .int 0), (2, .int (nI i))]), W p l e (headSpec wsX0_settle ({ frames := 3, cells := 0, slots := 0, locals := 67 })).room s m ([.ref d0, .int 0] : List Value).toArray below meth c H locs 0 0 (MQ below (va_Qi (fun (r : Int32) (u_ : Unit) => r = (fp_se false fr to cap uc fl (2 * E) N le fe).2.2) (fun (u_ : Unit) (t : State) => va_P (dC, dI) vwCl [(d0, .inr (0, [.ref d1, .ref d2, .ref (q 1)])), (d1, .inl (cI, N, .inl ((fp_se false fr to cap uc fl (2 * E) N le fe).1))), (d2, .inl (cI, N, .inl ((fp_se false fr to cap uc fl (2 * E) N le fe).2.1))), (q 1, .inr (1, [.int (nI N), .ref (q 2), .ref (q 3), .ref (q 4), .ref (q 5), .ref (q 6), .int (nI E)])), (q 2, .inl (cI, M, .inl fr)), (q 3, .inl (cI, M, .inl to)), (q 4, .inl (cI, M, .inl cap)), (q 5, .inl (cI, M, .inl uc)), (q 6, .inl (cI, M, .inl fl))] t.heap ∧ va_K (dC, dI) vwCl [(cI, .int), (cJ, .long), (cZ, .boolean)] t ∧ va_D A [(d0, .inr (0, [.ref d1, .ref d2, .ref (q 1)])), (d1, .inl (cI, N, .inl ((fp_se false fr to cap uc fl (2 * E) N le fe).1))), (d2, .inl (cI, N, .inl ((fp_se false fr to cap uc fl (2 * E) N le fe).2.1))), (q 1, .inr (1, [.int (nI N), .ref (q 2), .ref (q 3), .ref (q 4), .ref (q 5), .ref (q 6), .int (nI E)])), (q 2, .inl (cI, M, .inl fr)), (q 3, .inl (cI, M, .inl to)), (q 4, .inl (cI, M, .inl cap)), (q 5, .inl (cI, M, .inl uc)), (q 6, .inl (cI, M, .inl fl))]) A) ([.ref d0, .int 0] : List Value).toArray s 0 0 A) (F0 m 2 ls [])
    := by
    intro nf
    induction nf with
    | zero => intro i g h hi hst hfu H locs hP hD hS ls hl; exact absurd hfu (Nat.not_lt_zero _)
    | succ nf ih_a =>
      intro i g h hi hst hfu H locs hP hD hS ls hl
      refine lv_iload_n hx hb dX0_settle_2 rfl (lv_at hl 2 rfl) ?_
      refine lv_aload_n hx hb dX0_settle_3 rfl (lv_at hl 0 rfl) ?_
      refine va_get (D := (dC, dI)) (ci := 0) (v := .ref (q 1)) (C := RX0) (T := TX0) (N := 3) hx hb hts fa_settleF_0 hown hK hP 0 rfl rfl 2 (by decide) (hts _ fa_settleF_1) (fun _ h9 => h9) rfl dX0_settle_4 ?_
      refine va_get (D := (dC, dI)) (ci := 1) (v := .int (nI N)) (C := RX1) (T := TX1) (N := 7) hx hb hts fa_settleF_2 hown hK hP 3 rfl rfl 0 (by decide) (hts _ fa_settleF_3) (fun _ h9 => h9) rfl dX0_settle_7 ?_
      refine lv_icmp_ge (tgt := 29) hx hb dX0_settle_10 (by decide) (fun c_10 => ?_) (fun c_10 => ?_)
      · have hge := ix_ge (by omega) (by omega) c_10
        obtain rfl : N = i := by omega
        rw [Nat.sub_self] at hst
        refine lv_iconst (v := 0) hx hb dX0_settle_29 (by decide) ?_
        have hP := va_P_conI hP 1 (g := (fp_se false fr to cap uc fl (2 * E) N le fe).1) rfl (fun j _ => by first | (rw [← hst]; done) | (rw [← hst]; rfl))
        have hD := va_D_con hD 1 (e1 := .inl (cI, N, .inl ((fp_se false fr to cap uc fl (2 * E) N le fe).1))) rfl
        have hP := va_P_conI hP 2 (g := (fp_se false fr to cap uc fl (2 * E) N le fe).2.1) rfl (fun j _ => by first | (rw [← hst]; done) | (rw [← hst]; rfl))
        have hD := va_D_con hD 2 (e1 := .inl (cI, N, .inl ((fp_se false fr to cap uc fl (2 * E) N le fe).2.1))) rfl
        have hP9 := hP.sub (ws' := [(d0, .inr (0, [.ref d1, .ref d2, .ref (q 1)])), (d1, .inl (cI, N, .inl ((fp_se false fr to cap uc fl (2 * E) N le fe).1))), (d2, .inl (cI, N, .inl ((fp_se false fr to cap uc fl (2 * E) N le fe).2.1))), (q 1, .inr (1, [.int (nI N), .ref (q 2), .ref (q 3), .ref (q 4), .ref (q 5), .ref (q 6), .int (nI E)])), (q 2, .inl (cI, M, .inl fr)), (q 3, .inl (cI, M, .inl to)), (q 4, .inl (cI, M, .inl cap)), (q 5, .inl (cI, M, .inl uc)), (q 6, .inl (cI, M, .inl fl))]) [0, 1, 2, 3, 4, 5, 6, 7, 8] rfl
        have hD9 := hD.sub (ws' := [(d0, .inr (0, [.ref d1, .ref d2, .ref (q 1)])), (d1, .inl (cI, N, .inl ((fp_se false fr to cap uc fl (2 * E) N le fe).1))), (d2, .inl (cI, N, .inl ((fp_se false fr to cap uc fl (2 * E) N le fe).2.1))), (q 1, .inr (1, [.int (nI N), .ref (q 2), .ref (q 3), .ref (q 4), .ref (q 5), .ref (q 6), .int (nI E)])), (q 2, .inl (cI, M, .inl fr)), (q 3, .inl (cI, M, .inl to)), (q 4, .inl (cI, M, .inl cap)), (q 5, .inl (cI, M, .inl uc)), (q 6, .inl (cI, M, .inl fl))]) [0, 1, 2, 3, 4, 5, 6, 7, 8] (by decide) rfl
        exact W.zret (v := 0) hx hb hr rfl (fun t ht hW => ⟨⟨0, (), rfl, (by first | (rw [← hst]; done) | (rw [← hst]; rfl)), by rw [ht]; exact hP9, va_K.moved hW.alike hK, hD9⟩, hS.F ht⟩) hS.2.2 dX0_settle_30
      · have hlt := ix_lt (by omega) (by omega) c_10
        refine lv_aload_n hx hb dX0_settle_13 rfl (lv_at hl 0 rfl) ?_
        refine lv_iload_n hx hb dX0_settle_14 rfl (lv_at hl 1 rfl) ?_
        have hPc := hP.sub (ws' := [(d0, .inr (0, [.ref d1, .ref d2, .ref (q 1)])), (d1, .inl (cI, N, .inl g)), (d2, .inl (cI, N, .inl h)), (q 1, .inr (1, [.int (nI N), .ref (q 2), .ref (q 3), .ref (q 4), .ref (q 5), .ref (q 6), .int (nI E)])), (q 2, .inl (cI, M, .inl fr)), (q 3, .inl (cI, M, .inl to)), (q 4, .inl (cI, M, .inl cap)), (q 5, .inl (cI, M, .inl uc)), (q 6, .inl (cI, M, .inl fl))]) [0, 1, 2, 3, 4, 5, 6, 7, 8] rfl
        have hDc := hD.sub (ws' := [(d0, .inr (0, [.ref d1, .ref d2, .ref (q 1)])), (d1, .inl (cI, N, .inl g)), (d2, .inl (cI, N, .inl h)), (q 1, .inr (1, [.int (nI N), .ref (q 2), .ref (q 3), .ref (q 4), .ref (q 5), .ref (q 6), .int (nI E)])), (q 2, .inl (cI, M, .inl fr)), (q 3, .inl (cI, M, .inl to)), (q 4, .inl (cI, M, .inl cap)), (q 5, .inl (cI, M, .inl uc)), (q 6, .inl (cI, M, .inl fl))]) [0, 1, 2, 3, 4, 5, 6, 7, 8] (by decide) rfl
        have hFc := va_free (wc := [(d0, .inr (0, [.ref d1, .ref d2, .ref (q 1)])), (d1, .inl (cI, N, .inl g)), (d2, .inl (cI, N, .inl h)), (q 1, .inr (1, [.int (nI N), .ref (q 2), .ref (q 3), .ref (q 4), .ref (q 5), .ref (q 6), .int (nI E)])), (q 2, .inl (cI, M, .inl fr)), (q 3, .inl (cI, M, .inl to)), (q 4, .inl (cI, M, .inl cap)), (q 5, .inl (cI, M, .inl uc)), (q 6, .inl (cI, M, .inl fl))]) hD hS hA [0, 1, 2, 3, 4, 5, 6, 7, 8] rfl
        refine va_calli (va_runV (As := [.int 0]) (rest := []) ⟨hx, hb, hml, hown, hts⟩ (k_passF l dC dI cI cJ cZ d0 d1 d2 q N M E fr to cap uc fl g h H.size hE hM hN hfr hto) (cwV 1 hts gX0_settle_X0_passOverArcs rfl rfl rfl (by decide +kernel) ⟨Nat.le_of_ble_eq_true rfl, Nat.le_of_ble_eq_true rfl⟩) ⟨fun a U g mk q => by obtain ⟨q0, q1, qP, qK, qD⟩ := q; exact ⟨q0, q1, qP, va_K.moved (u := U) (U := U.calling g mk a) (Vm.Alike.refl U.vm) qK, qD⟩, va_recv hK hP (ci := 0) (q0 := 0) rfl rfl, fun U hU hW => ⟨rfl, by rw [hU], by rw [hU]; exact hPc, va_K.moved hW.alike hK, hDc.weaken (fun _ _ _ _ => trivial)⟩⟩ rfl rfl hl.1 rfl (lv_room (Nat.le_of_ble_eq_true rfl)) dX0_settle_15 ⟨Nat.le_of_ble_eq_true rfl, Nat.le_of_ble_eq_true rfl⟩) hS (fun q _ h => hFc q h) hFc (fun r_15 u t H1 locs ht hvm hw_15 hB hz1 hk1 hS => ?_)
        obtain ⟨hP1, hK1, hD1⟩ := hB
        rw [ht] at hP1
        obtain ⟨hP, hD⟩ := va_join (wr := []) (w1 := [(d0, .inr (0, [.ref d1, .ref d2, .ref (q 1)])), (d1, .inl (cI, N, .inl ((fp_ps false fr to cap uc fl g h (2 * E)).1))), (d2, .inl (cI, N, .inl ((fp_ps false fr to cap uc fl g h (2 * E)).2.1))), (q 1, .inr (1, [.int (nI N), .ref (q 2), .ref (q 3), .ref (q 4), .ref (q 5), .ref (q 6), .int (nI E)])), (q 2, .inl (cI, M, .inl fr)), (q 3, .inl (cI, M, .inl to)), (q 4, .inl (cI, M, .inl cap)), (q 5, .inl (cI, M, .inl uc)), (q 6, .inl (cI, M, .inl fl))]) hP hD [0, 1, 2, 3, 4, 5, 6, 7, 8] [] rfl rfl (by decide) (by decide) hk1 hFc hP1 hD1
        generalize H1 = H at hP hS ⊢
        have hP := hP.sub (ws' := [(d0, .inr (0, [.ref d1, .ref d2, .ref (q 1)])), (d1, .inl (cI, N, .inl ((fp_ps false fr to cap uc fl g h (2 * E)).1))), (d2, .inl (cI, N, .inl ((fp_ps false fr to cap uc fl g h (2 * E)).2.1))), (q 1, .inr (1, [.int (nI N), .ref (q 2), .ref (q 3), .ref (q 4), .ref (q 5), .ref (q 6), .int (nI E)])), (q 2, .inl (cI, M, .inl fr)), (q 3, .inl (cI, M, .inl to)), (q 4, .inl (cI, M, .inl cap)), (q 5, .inl (cI, M, .inl uc)), (q 6, .inl (cI, M, .inl fl))]) [0, 1, 2, 3, 4, 5, 6, 7, 8] rfl
        have hD := hD.sub (ws' := [(d0, .inr (0, [.ref d1, .ref d2, .ref (q 1)])), (d1, .inl (cI, N, .inl ((fp_ps false fr to cap uc fl g h (2 * E)).1))), (d2, .inl (cI, N, .inl ((fp_ps false fr to cap uc fl g h (2 * E)).2.1))), (q 1, .inr (1, [.int (nI N), .ref (q 2), .ref (q 3), .ref (q 4), .ref (q 5), .ref (q 6), .int (nI E)])), (q 2, .inl (cI, M, .inl fr)), (q 3, .inl (cI, M, .inl to)), (q 4, .inl (cI, M, .inl cap)), (q 5, .inl (cI, M, .inl uc)), (q 6, .inl (cI, M, .inl fl))]) [0, 1, 2, 3, 4, 5, 6, 7, 8] (by decide) rfl
        obtain rfl := hw_15
        refine lv_if_ne (tgt := 23) hx hb dX0_settle_18 (by decide) (fun c_18 => ?_) (fun c_18 => ?_)
        · rw [se_f hlt c_18] at hst
          refine lv_iinc (v := nI (i + 1)) (lv' := [(2, .int (nI (i + 1))), (0, .ref d0), (1, .int 0)]) hx hb dX0_settle_23 hl (k := 2) rfl (by first | exact nI_1 _ | exact nI_add _ _) (by decide) rfl (fun ls hl => ?_)
          refine lv_goto (tgt := 2) hx hb dX0_settle_26 (by decide) ?_
          exact ih_a (i + 1) ((fp_ps false fr to cap uc fl g h (2 * E)).1) ((fp_ps false fr to cap uc fl g h (2 * E)).2.1) (by first | assumption | omega | rfl) hst (by omega) _ _ hP hD hS _ (lv_sub hl [1, 2, 0] rfl)
        · rw [se_t hlt c_18] at hst
          refine lv_iconst (v := 1) hx hb dX0_settle_21 (by decide) ?_
          have hP := va_P_conI hP 1 (g := (fp_se false fr to cap uc fl (2 * E) N le fe).1) rfl (fun j _ => by first | (rw [← hst]; done) | (rw [← hst]; rfl))
          have hD := va_D_con hD 1 (e1 := .inl (cI, N, .inl ((fp_se false fr to cap uc fl (2 * E) N le fe).1))) rfl
          have hP := va_P_conI hP 2 (g := (fp_se false fr to cap uc fl (2 * E) N le fe).2.1) rfl (fun j _ => by first | (rw [← hst]; done) | (rw [← hst]; rfl))
          have hD := va_D_con hD 2 (e1 := .inl (cI, N, .inl ((fp_se false fr to cap uc fl (2 * E) N le fe).2.1))) rfl
          have hP9 := hP.sub (ws' := [(d0, .inr (0, [.ref d1, .ref d2, .ref (q 1)])), (d1, .inl (cI, N, .inl ((fp_se false fr to cap uc fl (2 * E) N le fe).1))), (d2, .inl (cI, N, .inl ((fp_se false fr to cap uc fl (2 * E) N le fe).2.1))), (q 1, .inr (1, [.int (nI N), .ref (q 2), .ref (q 3), .ref (q 4), .ref (q 5), .ref (q 6), .int (nI E)])), (q 2, .inl (cI, M, .inl fr)), (q 3, .inl (cI, M, .inl to)), (q 4, .inl (cI, M, .inl cap)), (q 5, .inl (cI, M, .inl uc)), (q 6, .inl (cI, M, .inl fl))]) [0, 1, 2, 3, 4, 5, 6, 7, 8] rfl
          have hD9 := hD.sub (ws' := [(d0, .inr (0, [.ref d1, .ref d2, .ref (q 1)])), (d1, .inl (cI, N, .inl ((fp_se false fr to cap uc fl (2 * E) N le fe).1))), (d2, .inl (cI, N, .inl ((fp_se false fr to cap uc fl (2 * E) N le fe).2.1))), (q 1, .inr (1, [.int (nI N), .ref (q 2), .ref (q 3), .ref (q 4), .ref (q 5), .ref (q 6), .int (nI E)])), (q 2, .inl (cI, M, .inl fr)), (q 3, .inl (cI, M, .inl to)), (q 4, .inl (cI, M, .inl cap)), (q 5, .inl (cI, M, .inl uc)), (q 6, .inl (cI, M, .inl fl))]) [0, 1, 2, 3, 4, 5, 6, 7, 8] (by decide) rfl
          exact W.zret (v := 1) hx hb hr rfl (fun t ht hW => ⟨⟨1, (), rfl, (by first | (rw [← hst]; done) | (rw [← hst]; rfl)), by rw [ht]; exact hP9, va_K.moved hW.alike hK, hD9⟩, hS.F ht⟩) hS.2.2 dX0_settle_22
  exact lo_a (N - 0 + 1) 0 le fe (by first | assumption | omega | rfl) rfl (by omega) _ _ hP hD hS _ (lv_sub hl [1, 2, 0] rfl)

theorem fa_settleT_0 : ∀ w ∈ wsX00, w ∈ wsX0_settle := by decide +kernel
theorem fa_settleT_1 : Cond.fieldLink RX0 9 "FlowProofs$Distances" "net" "LFlowProofs$Net;" ∈ wsX0_settle := by decide +kernel
theorem fa_settleT_2 : ∀ w ∈ wsX10, w ∈ wsX0_settle := by decide +kernel
theorem fa_settleT_3 : Cond.fieldLink RX0 15 "FlowProofs$Net" "nodes" "I" ∈ wsX0_settle := by decide +kernel
set_option maxHeartbeats 4000000 in
set_option maxRecDepth 100000 in
theorem k_settleT (l : Launch) (dC : Nat → ClassId) (dI : Nat → Nat → Nat) (cI cJ cZ : ClassId) (d0 d1 d2 : Nat) (q : Nat → Nat) (N M E : Nat) (fr to cap uc fl : Nat → Int32) (le fe : Nat → Int32) (sz : Nat) (hE : E ≤ M) (hM : M < 1000) (hN : N < 1000) (hfr : ∀ e, e < E → vp_in (fr e) N) (hto : ∀ e, e < E → vp_in (to e) N) : Met l yX0_settle wsX0_settle ({ frames := 3, cells := 0, slots := 0, locals := 67 }) (va_Pc [.ref d0, .int 1] (fun U => U.heap.size = sz ∧ va_P (dC, dI) vwCl [(d0, .inr (0, [.ref d1, .ref d2, .ref (q 1)])), (d1, .inl (cI, N, .inl le)), (d2, .inl (cI, N, .inl fe)), (q 1, .inr (1, [.int (nI N), .ref (q 2), .ref (q 3), .ref (q 4), .ref (q 5), .ref (q 6), .int (nI E)])), (q 2, .inl (cI, M, .inl fr)), (q 3, .inl (cI, M, .inl to)), (q 4, .inl (cI, M, .inl cap)), (q 5, .inl (cI, M, .inl uc)), (q 6, .inl (cI, M, .inl fl))] U.heap ∧ va_K (dC, dI) vwCl [(cI, .int), (cJ, .long), (cZ, .boolean)] U ∧ va_D (fun _ => True) [(d0, .inr (0, [.ref d1, .ref d2, .ref (q 1)])), (d1, .inl (cI, N, .inl le)), (d2, .inl (cI, N, .inl fe)), (q 1, .inr (1, [.int (nI N), .ref (q 2), .ref (q 3), .ref (q 4), .ref (q 5), .ref (q 6), .int (nI E)])), (q 2, .inl (cI, M, .inl fr)), (q 3, .inl (cI, M, .inl to)), (q 4, .inl (cI, M, .inl cap)), (q 5, .inl (cI, M, .inl uc)), (q 6, .inl (cI, M, .inl fl))])) (va_Qi (fun (r : Int32) (u_ : Unit) => r = (fp_se true fr to cap uc fl (2 * E) N le fe).2.2) (fun (u_ : Unit) (t : State) => va_P (dC, dI) vwCl [(d0, .inr (0, [.ref d1, .ref d2, .ref (q 1)])), (d1, .inl (cI, N, .inl ((fp_se true fr to cap uc fl (2 * E) N le fe).1))), (d2, .inl (cI, N, .inl ((fp_se true fr to cap uc fl (2 * E) N le fe).2.1))), (q 1, .inr (1, [.int (nI N), .ref (q 2), .ref (q 3), .ref (q 4), .ref (q 5), .ref (q 6), .int (nI E)])), (q 2, .inl (cI, M, .inl fr)), (q 3, .inl (cI, M, .inl to)), (q 4, .inl (cI, M, .inl cap)), (q 5, .inl (cI, M, .inl uc)), (q 6, .inl (cI, M, .inl fl))] t.heap ∧ va_K (dC, dI) vwCl [(cI, .int), (cJ, .long), (cZ, .boolean)] t ∧ va_D (va_A [(d0, .inr (0, [.ref d1, .ref d2, .ref (q 1)])), (d1, .inl (cI, N, .inl le)), (d2, .inl (cI, N, .inl fe)), (q 1, .inr (1, [.int (nI N), .ref (q 2), .ref (q 3), .ref (q 4), .ref (q 5), .ref (q 6), .int (nI E)])), (q 2, .inl (cI, M, .inl fr)), (q 3, .inl (cI, M, .inl to)), (q 4, .inl (cI, M, .inl cap)), (q 5, .inl (cI, M, .inl uc)), (q 6, .inl (cI, M, .inl fl))] sz) [(d0, .inr (0, [.ref d1, .ref d2, .ref (q 1)])), (d1, .inl (cI, N, .inl ((fp_se true fr to cap uc fl (2 * E) N le fe).1))), (d2, .inl (cI, N, .inl ((fp_se true fr to cap uc fl (2 * E) N le fe).2.1))), (q 1, .inr (1, [.int (nI N), .ref (q 2), .ref (q 3), .ref (q 4), .ref (q 5), .ref (q 6), .int (nI E)])), (q 2, .inl (cI, M, .inl fr)), (q 3, .inl (cI, M, .inl to)), (q 4, .inl (cI, M, .inl cap)), (q 5, .inl (cI, M, .inl uc)), (q 6, .inl (cI, M, .inl fl))]) (va_A [(d0, .inr (0, [.ref d1, .ref d2, .ref (q 1)])), (d1, .inl (cI, N, .inl le)), (d2, .inl (cI, N, .inl fe)), (q 1, .inr (1, [.int (nI N), .ref (q 2), .ref (q 3), .ref (q 4), .ref (q 5), .ref (q 6), .int (nI E)])), (q 2, .inl (cI, M, .inl fr)), (q 3, .inl (cI, M, .inl to)), (q 4, .inl (cI, M, .inl cap)), (q 5, .inl (cI, M, .inl uc)), (q 6, .inl (cI, M, .inl fl))] sz)) 0 0 (va_A [(d0, .inr (0, [.ref d1, .ref d2, .ref (q 1)])), (d1, .inl (cI, N, .inl le)), (d2, .inl (cI, N, .inl fe)), (q 1, .inr (1, [.int (nI N), .ref (q 2), .ref (q 3), .ref (q 4), .ref (q 5), .ref (q 6), .int (nI E)])), (q 2, .inl (cI, M, .inl fr)), (q 3, .inl (cI, M, .inl to)), (q 4, .inl (cI, M, .inl cap)), (q 5, .inl (cI, M, .inl uc)), (q 6, .inl (cI, M, .inl fl))] sz) := by
  refine Met.ofW (cc := cX0_settle) (maxL := 3) (ret := (some .boolean)) (by decide) rfl ?_
  intro p e s m args below meth c s₁ B hml hv
  obtain ⟨rfl, hsz, hP, hK, hD0⟩ := hv
  have hx := B.exec
  have hb := B.bytes
  have hr := B.returns
  have hts := atoms_spec (ws := wsX0_settle) B.pre
  have hown : s.vm.findClass RX0 = some m.cls := findClass_of_methodNamed B.named
  have hlocks := B.notSynchronized
  subst hsz
  have hD := hD0.self (sz := s.heap.size)
  generalize hAe : va_A [(d0, .inr (0, [.ref d1, .ref d2, .ref (q 1)])), (d1, .inl (cI, N, .inl le)), (d2, .inl (cI, N, .inl fe)), (q 1, .inr (1, [.int (nI N), .ref (q 2), .ref (q 3), .ref (q 4), .ref (q 5), .ref (q 6), .int (nI E)])), (q 2, .inl (cI, M, .inl fr)), (q 3, .inl (cI, M, .inl to)), (q 4, .inl (cI, M, .inl cap)), (q 5, .inl (cI, M, .inl uc)), (q 6, .inl (cI, M, .inl fl))] s.heap.size = A at hD ⊢
  have hA : ∀ q : Nat, s.heap.size ≤ q → A q := fun q h => by rw [← hAe]; exact Or.inr h
  have hS : va_S A s.heap s.heap [] := va_S.rf
  have hP : va_P (dC, dI) vwCl [(d0, .inr (0, [.ref d1, .ref d2, .ref (q 1)])), (d1, .inl (cI, N, .inl le)), (d2, .inl (cI, N, .inl fe)), (q 1, .inr (1, [.int (nI N), .ref (q 2), .ref (q 3), .ref (q 4), .ref (q 5), .ref (q 6), .int (nI E)])), (q 2, .inl (cI, M, .inl fr)), (q 3, .inl (cI, M, .inl to)), (q 4, .inl (cI, M, .inl cap)), (q 5, .inl (cI, M, .inl uc)), (q 6, .inl (cI, M, .inl fl))] s.heap := hP
  have hl := lv_entry ([.ref d0, .int 1]) (n := 3) (Nat.le_of_ble_eq_true rfl)
  rw [lg_entry_eq]
  generalize (lg_sl ([.ref d0, .int 1]) ++ List.replicate (3 - (lg_sl ([.ref d0, .int 1])).length) Slot.unset).toArray = ls at hl ⊢
  have hl : lv_has ls 3 [(0, .ref d0), (1, .int 1)] := hl
  refine lv_iconst (v := 0) hx hb dX0_settle_0 (by decide) ?_
  refine tp_i (y := nI 0) nI_0.symm ?_
  refine lv_istore_n (lv' := [(2, .int (nI 0)), (0, .ref d0), (1, .int 1)]) hx hb dX0_settle_1 rfl hl (by decide) rfl (fun ls hl => ?_)
  have lo_a : ∀ (nf : Nat) (i : Nat) (g : Nat → Int32) (h : Nat → Int32) (hi : i ≤ N) (hst : fp_se true fr to cap uc fl (2 * E) (N - i) g h = fp_se true fr to cap uc fl (2 * E) N le fe) (hfu : N - i < nf) (H : Heap) (locs : List Loc) (hP : va_P (dC, dI) vwCl [(d0, .inr (0, [.ref d1, .ref d2, .ref (q 1)])), (d1, .inl (cI, N, .inl g)), (d2, .inl (cI, N, .inl h)), (q 1, .inr (1, [.int (nI N), .ref (q 2), .ref (q 3), .ref (q 4), .ref (q 5), .ref (q 6), .int (nI E)])), (q 2, .inl (cI, M, .inl fr)), (q 3, .inl (cI, M, .inl to)), (q 4, .inl (cI, M, .inl cap)), (q 5, .inl (cI, M, .inl uc)), (q 6, .inl (cI, M, .inl fl))] H) (hD : va_D A [(d0, .inr (0, [.ref d1, .ref d2, .ref (q 1)])), (d1, .inl (cI, N, .inl g)), (d2, .inl (cI, N, .inl h)), (q 1, .inr (1, [.int (nI N), .ref (q 2), .ref (q 3), .ref (q 4), .ref (q 5), .ref (q 6), .int (nI E)])), (q 2, .inl (cI, M, .inl fr)), (q 3, .inl (cI, M, .inl to)), (q 4, .inl (cI, M, .inl cap)), (q 5, .inl (cI, M, .inl uc)), (q 6, .inl (cI, M, .inl fl))]) (hS : va_S A s.heap H locs) (ls : Array Slot) (hl : lv_has ls 3 [(0, .ref d0), (1, .int 1), (2, .int (nI i))]), W p l e (headSpec wsX0_settle ({ frames := 3, cells := 0, slots := 0, locals := 67 })).room s m ([.ref d0, .int 1] : List Value).toArray below meth c H locs 0 0 (MQ below (va_Qi (fun (r : Int32) (u_ : Unit) => r = (fp_se true fr to cap uc fl (2 * E) N le fe).2.2) (fun (u_ : Unit) (t : State) => va_P (dC, dI) vwCl [(d0, .inr (0, [.ref d1, .ref d2, .ref (q 1)])), (d1, .inl (cI, N, .inl ((fp_se true fr to cap uc fl (2 * E) N le fe).1))), (d2, .inl (cI, N, .inl ((fp_se true fr to cap uc fl (2 * E) N le fe).2.1))), (q 1, .inr (1, [.int (nI N), .ref (q 2), .ref (q 3), .ref (q 4), .ref (q 5), .ref (q 6), .int (nI E)])), (q 2, .inl (cI, M, .inl fr)), (q 3, .inl (cI, M, .inl to)), (q 4, .inl (cI, M, .inl cap)), (q 5, .inl (cI, M, .inl uc)), (q 6, .inl (cI, M, .inl fl))] t.heap ∧ va_K (dC, dI) vwCl [(cI, .int), (cJ, .long), (cZ, .boolean)] t ∧ va_D A [(d0, .inr (0, [.ref d1, .ref d2, .ref (q 1)])), (d1, .inl (cI, N, .inl ((fp_se true fr to cap uc fl (2 * E) N le fe).1))), (d2, .inl (cI, N, .inl ((fp_se true fr to cap uc fl (2 * E) N le fe).2.1))), (q 1, .inr (1, [.int (nI N), .ref (q 2), .ref (q 3), .ref (q 4), .ref (q 5), .ref (q 6), .int (nI E)])), (q 2, .inl (cI, M, .inl fr)), (q 3, .inl (cI, M, .inl to)), (q 4, .inl (cI, M, .inl cap)), (q 5, .inl (cI, M, .inl uc)), (q 6, .inl (cI, M, .inl fl))]) A) ([.ref d0, .int 1] : List Value).toArray s 0 0 A) (F0 m 2 ls [])
    := by
    intro nf
    induction nf with
    | zero => intro i g h hi hst hfu H locs hP hD hS ls hl; exact absurd hfu (Nat.not_lt_zero _)
    | succ nf ih_a =>
      intro i g h hi hst hfu H locs hP hD hS ls hl
      refine lv_iload_n hx hb dX0_settle_2 rfl (lv_at hl 2 rfl) ?_
      refine lv_aload_n hx hb dX0_settle_3 rfl (lv_at hl 0 rfl) ?_
      refine va_get (D := (dC, dI)) (ci := 0) (v := .ref (q 1)) (C := RX0) (T := TX0) (N := 3) hx hb hts fa_settleT_0 hown hK hP 0 rfl rfl 2 (by decide) (hts _ fa_settleT_1) (fun _ h9 => h9) rfl dX0_settle_4 ?_
      refine va_get (D := (dC, dI)) (ci := 1) (v := .int (nI N)) (C := RX1) (T := TX1) (N := 7) hx hb hts fa_settleT_2 hown hK hP 3 rfl rfl 0 (by decide) (hts _ fa_settleT_3) (fun _ h9 => h9) rfl dX0_settle_7 ?_
      refine lv_icmp_ge (tgt := 29) hx hb dX0_settle_10 (by decide) (fun c_10 => ?_) (fun c_10 => ?_)
      · have hge := ix_ge (by omega) (by omega) c_10
        obtain rfl : N = i := by omega
        rw [Nat.sub_self] at hst
        refine lv_iconst (v := 0) hx hb dX0_settle_29 (by decide) ?_
        have hP := va_P_conI hP 1 (g := (fp_se true fr to cap uc fl (2 * E) N le fe).1) rfl (fun j _ => by first | (rw [← hst]; done) | (rw [← hst]; rfl))
        have hD := va_D_con hD 1 (e1 := .inl (cI, N, .inl ((fp_se true fr to cap uc fl (2 * E) N le fe).1))) rfl
        have hP := va_P_conI hP 2 (g := (fp_se true fr to cap uc fl (2 * E) N le fe).2.1) rfl (fun j _ => by first | (rw [← hst]; done) | (rw [← hst]; rfl))
        have hD := va_D_con hD 2 (e1 := .inl (cI, N, .inl ((fp_se true fr to cap uc fl (2 * E) N le fe).2.1))) rfl
        have hP9 := hP.sub (ws' := [(d0, .inr (0, [.ref d1, .ref d2, .ref (q 1)])), (d1, .inl (cI, N, .inl ((fp_se true fr to cap uc fl (2 * E) N le fe).1))), (d2, .inl (cI, N, .inl ((fp_se true fr to cap uc fl (2 * E) N le fe).2.1))), (q 1, .inr (1, [.int (nI N), .ref (q 2), .ref (q 3), .ref (q 4), .ref (q 5), .ref (q 6), .int (nI E)])), (q 2, .inl (cI, M, .inl fr)), (q 3, .inl (cI, M, .inl to)), (q 4, .inl (cI, M, .inl cap)), (q 5, .inl (cI, M, .inl uc)), (q 6, .inl (cI, M, .inl fl))]) [0, 1, 2, 3, 4, 5, 6, 7, 8] rfl
        have hD9 := hD.sub (ws' := [(d0, .inr (0, [.ref d1, .ref d2, .ref (q 1)])), (d1, .inl (cI, N, .inl ((fp_se true fr to cap uc fl (2 * E) N le fe).1))), (d2, .inl (cI, N, .inl ((fp_se true fr to cap uc fl (2 * E) N le fe).2.1))), (q 1, .inr (1, [.int (nI N), .ref (q 2), .ref (q 3), .ref (q 4), .ref (q 5), .ref (q 6), .int (nI E)])), (q 2, .inl (cI, M, .inl fr)), (q 3, .inl (cI, M, .inl to)), (q 4, .inl (cI, M, .inl cap)), (q 5, .inl (cI, M, .inl uc)), (q 6, .inl (cI, M, .inl fl))]) [0, 1, 2, 3, 4, 5, 6, 7, 8] (by decide) rfl
        exact W.zret (v := 0) hx hb hr rfl (fun t ht hW => ⟨⟨0, (), rfl, (by first | (rw [← hst]; done) | (rw [← hst]; rfl)), by rw [ht]; exact hP9, va_K.moved hW.alike hK, hD9⟩, hS.F ht⟩) hS.2.2 dX0_settle_30
      · have hlt := ix_lt (by omega) (by omega) c_10
        refine lv_aload_n hx hb dX0_settle_13 rfl (lv_at hl 0 rfl) ?_
        refine lv_iload_n hx hb dX0_settle_14 rfl (lv_at hl 1 rfl) ?_
        have hPc := hP.sub (ws' := [(d0, .inr (0, [.ref d1, .ref d2, .ref (q 1)])), (d1, .inl (cI, N, .inl g)), (d2, .inl (cI, N, .inl h)), (q 1, .inr (1, [.int (nI N), .ref (q 2), .ref (q 3), .ref (q 4), .ref (q 5), .ref (q 6), .int (nI E)])), (q 2, .inl (cI, M, .inl fr)), (q 3, .inl (cI, M, .inl to)), (q 4, .inl (cI, M, .inl cap)), (q 5, .inl (cI, M, .inl uc)), (q 6, .inl (cI, M, .inl fl))]) [0, 1, 2, 3, 4, 5, 6, 7, 8] rfl
        have hDc := hD.sub (ws' := [(d0, .inr (0, [.ref d1, .ref d2, .ref (q 1)])), (d1, .inl (cI, N, .inl g)), (d2, .inl (cI, N, .inl h)), (q 1, .inr (1, [.int (nI N), .ref (q 2), .ref (q 3), .ref (q 4), .ref (q 5), .ref (q 6), .int (nI E)])), (q 2, .inl (cI, M, .inl fr)), (q 3, .inl (cI, M, .inl to)), (q 4, .inl (cI, M, .inl cap)), (q 5, .inl (cI, M, .inl uc)), (q 6, .inl (cI, M, .inl fl))]) [0, 1, 2, 3, 4, 5, 6, 7, 8] (by decide) rfl
        have hFc := va_free (wc := [(d0, .inr (0, [.ref d1, .ref d2, .ref (q 1)])), (d1, .inl (cI, N, .inl g)), (d2, .inl (cI, N, .inl h)), (q 1, .inr (1, [.int (nI N), .ref (q 2), .ref (q 3), .ref (q 4), .ref (q 5), .ref (q 6), .int (nI E)])), (q 2, .inl (cI, M, .inl fr)), (q 3, .inl (cI, M, .inl to)), (q 4, .inl (cI, M, .inl cap)), (q 5, .inl (cI, M, .inl uc)), (q 6, .inl (cI, M, .inl fl))]) hD hS hA [0, 1, 2, 3, 4, 5, 6, 7, 8] rfl
        refine va_calli (va_runV (As := [.int 1]) (rest := []) ⟨hx, hb, hml, hown, hts⟩ (k_passT l dC dI cI cJ cZ d0 d1 d2 q N M E fr to cap uc fl g h H.size hE hM hN hfr hto) (cwV 1 hts gX0_settle_X0_passOverArcs rfl rfl rfl (by decide +kernel) ⟨Nat.le_of_ble_eq_true rfl, Nat.le_of_ble_eq_true rfl⟩) ⟨fun a U g mk q => by obtain ⟨q0, q1, qP, qK, qD⟩ := q; exact ⟨q0, q1, qP, va_K.moved (u := U) (U := U.calling g mk a) (Vm.Alike.refl U.vm) qK, qD⟩, va_recv hK hP (ci := 0) (q0 := 0) rfl rfl, fun U hU hW => ⟨rfl, by rw [hU], by rw [hU]; exact hPc, va_K.moved hW.alike hK, hDc.weaken (fun _ _ _ _ => trivial)⟩⟩ rfl rfl hl.1 rfl (lv_room (Nat.le_of_ble_eq_true rfl)) dX0_settle_15 ⟨Nat.le_of_ble_eq_true rfl, Nat.le_of_ble_eq_true rfl⟩) hS (fun q _ h => hFc q h) hFc (fun r_15 u t H1 locs ht hvm hw_15 hB hz1 hk1 hS => ?_)
        obtain ⟨hP1, hK1, hD1⟩ := hB
        rw [ht] at hP1
        obtain ⟨hP, hD⟩ := va_join (wr := []) (w1 := [(d0, .inr (0, [.ref d1, .ref d2, .ref (q 1)])), (d1, .inl (cI, N, .inl ((fp_ps true fr to cap uc fl g h (2 * E)).1))), (d2, .inl (cI, N, .inl ((fp_ps true fr to cap uc fl g h (2 * E)).2.1))), (q 1, .inr (1, [.int (nI N), .ref (q 2), .ref (q 3), .ref (q 4), .ref (q 5), .ref (q 6), .int (nI E)])), (q 2, .inl (cI, M, .inl fr)), (q 3, .inl (cI, M, .inl to)), (q 4, .inl (cI, M, .inl cap)), (q 5, .inl (cI, M, .inl uc)), (q 6, .inl (cI, M, .inl fl))]) hP hD [0, 1, 2, 3, 4, 5, 6, 7, 8] [] rfl rfl (by decide) (by decide) hk1 hFc hP1 hD1
        generalize H1 = H at hP hS ⊢
        have hP := hP.sub (ws' := [(d0, .inr (0, [.ref d1, .ref d2, .ref (q 1)])), (d1, .inl (cI, N, .inl ((fp_ps true fr to cap uc fl g h (2 * E)).1))), (d2, .inl (cI, N, .inl ((fp_ps true fr to cap uc fl g h (2 * E)).2.1))), (q 1, .inr (1, [.int (nI N), .ref (q 2), .ref (q 3), .ref (q 4), .ref (q 5), .ref (q 6), .int (nI E)])), (q 2, .inl (cI, M, .inl fr)), (q 3, .inl (cI, M, .inl to)), (q 4, .inl (cI, M, .inl cap)), (q 5, .inl (cI, M, .inl uc)), (q 6, .inl (cI, M, .inl fl))]) [0, 1, 2, 3, 4, 5, 6, 7, 8] rfl
        have hD := hD.sub (ws' := [(d0, .inr (0, [.ref d1, .ref d2, .ref (q 1)])), (d1, .inl (cI, N, .inl ((fp_ps true fr to cap uc fl g h (2 * E)).1))), (d2, .inl (cI, N, .inl ((fp_ps true fr to cap uc fl g h (2 * E)).2.1))), (q 1, .inr (1, [.int (nI N), .ref (q 2), .ref (q 3), .ref (q 4), .ref (q 5), .ref (q 6), .int (nI E)])), (q 2, .inl (cI, M, .inl fr)), (q 3, .inl (cI, M, .inl to)), (q 4, .inl (cI, M, .inl cap)), (q 5, .inl (cI, M, .inl uc)), (q 6, .inl (cI, M, .inl fl))]) [0, 1, 2, 3, 4, 5, 6, 7, 8] (by decide) rfl
        obtain rfl := hw_15
        refine lv_if_ne (tgt := 23) hx hb dX0_settle_18 (by decide) (fun c_18 => ?_) (fun c_18 => ?_)
        · rw [se_f hlt c_18] at hst
          refine lv_iinc (v := nI (i + 1)) (lv' := [(2, .int (nI (i + 1))), (0, .ref d0), (1, .int 1)]) hx hb dX0_settle_23 hl (k := 2) rfl (by first | exact nI_1 _ | exact nI_add _ _) (by decide) rfl (fun ls hl => ?_)
          refine lv_goto (tgt := 2) hx hb dX0_settle_26 (by decide) ?_
          exact ih_a (i + 1) ((fp_ps true fr to cap uc fl g h (2 * E)).1) ((fp_ps true fr to cap uc fl g h (2 * E)).2.1) (by first | assumption | omega | rfl) hst (by omega) _ _ hP hD hS _ (lv_sub hl [1, 2, 0] rfl)
        · rw [se_t hlt c_18] at hst
          refine lv_iconst (v := 1) hx hb dX0_settle_21 (by decide) ?_
          have hP := va_P_conI hP 1 (g := (fp_se true fr to cap uc fl (2 * E) N le fe).1) rfl (fun j _ => by first | (rw [← hst]; done) | (rw [← hst]; rfl))
          have hD := va_D_con hD 1 (e1 := .inl (cI, N, .inl ((fp_se true fr to cap uc fl (2 * E) N le fe).1))) rfl
          have hP := va_P_conI hP 2 (g := (fp_se true fr to cap uc fl (2 * E) N le fe).2.1) rfl (fun j _ => by first | (rw [← hst]; done) | (rw [← hst]; rfl))
          have hD := va_D_con hD 2 (e1 := .inl (cI, N, .inl ((fp_se true fr to cap uc fl (2 * E) N le fe).2.1))) rfl
          have hP9 := hP.sub (ws' := [(d0, .inr (0, [.ref d1, .ref d2, .ref (q 1)])), (d1, .inl (cI, N, .inl ((fp_se true fr to cap uc fl (2 * E) N le fe).1))), (d2, .inl (cI, N, .inl ((fp_se true fr to cap uc fl (2 * E) N le fe).2.1))), (q 1, .inr (1, [.int (nI N), .ref (q 2), .ref (q 3), .ref (q 4), .ref (q 5), .ref (q 6), .int (nI E)])), (q 2, .inl (cI, M, .inl fr)), (q 3, .inl (cI, M, .inl to)), (q 4, .inl (cI, M, .inl cap)), (q 5, .inl (cI, M, .inl uc)), (q 6, .inl (cI, M, .inl fl))]) [0, 1, 2, 3, 4, 5, 6, 7, 8] rfl
          have hD9 := hD.sub (ws' := [(d0, .inr (0, [.ref d1, .ref d2, .ref (q 1)])), (d1, .inl (cI, N, .inl ((fp_se true fr to cap uc fl (2 * E) N le fe).1))), (d2, .inl (cI, N, .inl ((fp_se true fr to cap uc fl (2 * E) N le fe).2.1))), (q 1, .inr (1, [.int (nI N), .ref (q 2), .ref (q 3), .ref (q 4), .ref (q 5), .ref (q 6), .int (nI E)])), (q 2, .inl (cI, M, .inl fr)), (q 3, .inl (cI, M, .inl to)), (q 4, .inl (cI, M, .inl cap)), (q 5, .inl (cI, M, .inl uc)), (q 6, .inl (cI, M, .inl fl))]) [0, 1, 2, 3, 4, 5, 6, 7, 8] (by decide) rfl
          exact W.zret (v := 1) hx hb hr rfl (fun t ht hW => ⟨⟨1, (), rfl, (by first | (rw [← hst]; done) | (rw [← hst]; rfl)), by rw [ht]; exact hP9, va_K.moved hW.alike hK, hD9⟩, hS.F ht⟩) hS.2.2 dX0_settle_22
  exact lo_a (N - 0 + 1) 0 le fe (by first | assumption | omega | rfl) rfl (by omega) _ _ hP hD hS _ (lv_sub hl [1, 2, 0] rfl)

theorem fa_beginAt_0 : ∀ w ∈ wsX00, w ∈ wsX0_beginAt := by decide +kernel
theorem fa_beginAt_1 : Cond.fieldLink RX0 21 "FlowProofs$Distances" "least" "[I" ∈ wsX0_beginAt := by decide +kernel
theorem fa_beginAt_2 : Cond.constant RX0 28 (2147483647) ∈ wsX0_beginAt := by decide +kernel
theorem fa_beginAt_3 : Cond.fieldLink RX0 25 "FlowProofs$Distances" "fewest" "[I" ∈ wsX0_beginAt := by decide +kernel
set_option maxHeartbeats 4000000 in
set_option maxRecDepth 100000 in
theorem k_beginAt (l : Launch) (dC : Nat → ClassId) (dI : Nat → Nat → Nat) (cI cJ cZ : ClassId) (d0 d1 d2 : Nat) (q : Nat → Nat) (N : Nat) (le fe : Nat → Int32) (x : Int32) (sz : Nat) (hN : N < 1000) (hx0 : vp_in x N) : Met l yX0_beginAt wsX0_beginAt ({ frames := 1, cells := 0, slots := 0, locals := 23 }) (va_Pc [.ref d0, .int x] (fun U => U.heap.size = sz ∧ va_P (dC, dI) vwCl [(d0, .inr (0, [.ref d1, .ref d2, .ref (q 1)])), (d1, .inl (cI, N, .inl le)), (d2, .inl (cI, N, .inl fe))] U.heap ∧ va_K (dC, dI) vwCl [(cI, .int), (cJ, .long), (cZ, .boolean)] U ∧ va_D (fun _ => True) [(d0, .inr (0, [.ref d1, .ref d2, .ref (q 1)])), (d1, .inl (cI, N, .inl le)), (d2, .inl (cI, N, .inl fe))])) (va_Qv (fun (u_ : Unit) => True) (fun (u_ : Unit) (t : State) => va_P (dC, dI) vwCl [(d0, .inr (0, [.ref d1, .ref d2, .ref (q 1)])), (d1, .inl (cI, N, .inl (upd (fun _ => 2147483647) x.toNatClampNeg 0))), (d2, .inl (cI, N, .inl (fun _ => 0)))] t.heap ∧ va_K (dC, dI) vwCl [(cI, .int), (cJ, .long), (cZ, .boolean)] t ∧ va_D (va_A [(d0, .inr (0, [.ref d1, .ref d2, .ref (q 1)])), (d1, .inl (cI, N, .inl le)), (d2, .inl (cI, N, .inl fe))] sz) [(d0, .inr (0, [.ref d1, .ref d2, .ref (q 1)])), (d1, .inl (cI, N, .inl (upd (fun _ => 2147483647) x.toNatClampNeg 0))), (d2, .inl (cI, N, .inl (fun _ => 0)))]) (va_A [(d0, .inr (0, [.ref d1, .ref d2, .ref (q 1)])), (d1, .inl (cI, N, .inl le)), (d2, .inl (cI, N, .inl fe))] sz)) 0 0 (va_A [(d0, .inr (0, [.ref d1, .ref d2, .ref (q 1)])), (d1, .inl (cI, N, .inl le)), (d2, .inl (cI, N, .inl fe))] sz) := by
  refine Met.ofW (cc := cX0_beginAt) (maxL := 2) (ret := none) (by decide) rfl ?_
  intro p e s m args below meth c s₁ B hml hv
  obtain ⟨rfl, hsz, hP, hK, hD0⟩ := hv
  have hx := B.exec
  have hb := B.bytes
  have hr := B.returns
  have hts := atoms_spec (ws := wsX0_beginAt) B.pre
  have hown : s.vm.findClass RX0 = some m.cls := findClass_of_methodNamed B.named
  have hlocks := B.notSynchronized
  subst hsz
  have hD := hD0.self (sz := s.heap.size)
  generalize hAe : va_A [(d0, .inr (0, [.ref d1, .ref d2, .ref (q 1)])), (d1, .inl (cI, N, .inl le)), (d2, .inl (cI, N, .inl fe))] s.heap.size = A at hD ⊢
  have hA : ∀ q : Nat, s.heap.size ≤ q → A q := fun q h => by rw [← hAe]; exact Or.inr h
  have hS : va_S A s.heap s.heap [] := va_S.rf
  have hP : va_P (dC, dI) vwCl [(d0, .inr (0, [.ref d1, .ref d2, .ref (q 1)])), (d1, .inl (cI, N, .inl le)), (d2, .inl (cI, N, .inl fe))] s.heap := hP
  have hl := lv_entry ([.ref d0, .int x]) (n := 2) (Nat.le_of_ble_eq_true rfl)
  rw [lg_entry_eq]
  generalize (lg_sl ([.ref d0, .int x]) ++ List.replicate (2 - (lg_sl ([.ref d0, .int x])).length) Slot.unset).toArray = ls at hl ⊢
  have hl : lv_has ls 2 [(0, .ref d0), (1, .int x)] := hl
  refine lv_aload_n hx hb dX0_beginAt_0 rfl (lv_at hl 0 rfl) ?_
  refine va_get (D := (dC, dI)) (ci := 0) (v := .ref d1) (C := RX0) (T := TX0) (N := 3) hx hb hts fa_beginAt_0 hown hK hP 0 rfl rfl 0 (by decide) (hts _ fa_beginAt_1) (fun _ h9 => h9) rfl dX0_beginAt_1 ?_
  refine lv_ldc (v := 2147483647) hx hb hown (hts _ fa_beginAt_2) dX0_beginAt_4 ?_
  have hPc := hP.sub (ws' := [(d1, .inl (cI, N, .inl le))]) [1] rfl
  have hDc := hD.sub (ws' := [(d1, .inl (cI, N, .inl le))]) [1] (by decide) rfl
  have hFc := va_free (wc := [(d1, .inl (cI, N, .inl le))]) hD hS hA [1] rfl
  refine va_callv (va_runS (As := [.ref d1, .int 2147483647]) (rest := []) ⟨hx, hb, hml, hown, hts⟩ (k_fill l dC dI cI cJ cZ d1 N le 2147483647 s.heap.size (by omega)) (va_cwS 2 hts gX0_beginAt_J7_fill_53178 rfl rfl rfl (by decide +kernel) ⟨Nat.le_of_ble_eq_true rfl, Nat.le_of_ble_eq_true rfl⟩) ⟨fun a U g mk q => by obtain ⟨q0, q1, qP, qK, qD⟩ := q; exact ⟨q0, q1, qP, va_K.moved (u := U) (U := U.calling g mk a) (Vm.Alike.refl U.vm) qK, qD⟩, fun U hU hW => ⟨rfl, by rw [hU], by rw [hU]; exact hPc, va_K.moved hW.alike hK, hDc.weaken (fun _ _ _ _ => trivial)⟩⟩ rfl rfl hl.1 rfl (lv_room (Nat.le_of_ble_eq_true rfl)) dX0_beginAt_6 ⟨Nat.le_of_ble_eq_true rfl, Nat.le_of_ble_eq_true rfl⟩) hS (fun q _ h => hFc q h) hFc (fun u t H1 locs ht hvm hw_6 hB hz1 hk1 hS => ?_)
  obtain ⟨hP1, hK1, hD1⟩ := hB
  rw [ht] at hP1
  obtain ⟨hP, hD⟩ := va_join (wr := [(d0, .inr (0, [.ref d1, .ref d2, .ref (q 1)])), (d2, .inl (cI, N, .inl fe))]) (w1 := [(d1, .inl (cI, N, .inl (fun _ => 2147483647)))]) hP hD [1] [0, 2] rfl rfl (by decide) (by decide) hk1 hFc hP1 hD1
  generalize H1 = H at hP hS ⊢
  have hP := hP.sub (ws' := [(d0, .inr (0, [.ref d1, .ref d2, .ref (q 1)])), (d1, .inl (cI, N, .inl (fun _ => 2147483647))), (d2, .inl (cI, N, .inl fe))]) [0, 2, 1] rfl
  have hD := hD.sub (ws' := [(d0, .inr (0, [.ref d1, .ref d2, .ref (q 1)])), (d1, .inl (cI, N, .inl (fun _ => 2147483647))), (d2, .inl (cI, N, .inl fe))]) [0, 2, 1] (by decide) rfl
  refine lv_aload_n hx hb dX0_beginAt_9 rfl (lv_at hl 0 rfl) ?_
  refine va_get (D := (dC, dI)) (ci := 0) (v := .ref d2) (C := RX0) (T := TX0) (N := 3) hx hb hts fa_beginAt_0 hown hK hP 0 rfl rfl 1 (by decide) (hts _ fa_beginAt_3) (fun _ h9 => h9) rfl dX0_beginAt_10 ?_
  refine lv_iconst (v := 0) hx hb dX0_beginAt_13 (by decide) ?_
  have hPc := hP.sub (ws' := [(d2, .inl (cI, N, .inl fe))]) [2] rfl
  have hDc := hD.sub (ws' := [(d2, .inl (cI, N, .inl fe))]) [2] (by decide) rfl
  have hFc := va_free (wc := [(d2, .inl (cI, N, .inl fe))]) hD hS hA [2] rfl
  refine va_callv (va_runS (As := [.ref d2, .int 0]) (rest := []) ⟨hx, hb, hml, hown, hts⟩ (k_fill l dC dI cI cJ cZ d2 N fe 0 H.size (by omega)) (va_cwS 2 hts gX0_beginAt_J7_fill_53178 rfl rfl rfl (by decide +kernel) ⟨Nat.le_of_ble_eq_true rfl, Nat.le_of_ble_eq_true rfl⟩) ⟨fun a U g mk q => by obtain ⟨q0, q1, qP, qK, qD⟩ := q; exact ⟨q0, q1, qP, va_K.moved (u := U) (U := U.calling g mk a) (Vm.Alike.refl U.vm) qK, qD⟩, fun U hU hW => ⟨rfl, by rw [hU], by rw [hU]; exact hPc, va_K.moved hW.alike hK, hDc.weaken (fun _ _ _ _ => trivial)⟩⟩ rfl rfl hl.1 rfl (lv_room (Nat.le_of_ble_eq_true rfl)) dX0_beginAt_14 ⟨Nat.le_of_ble_eq_true rfl, Nat.le_of_ble_eq_true rfl⟩) hS (fun q _ h => hFc q h) hFc (fun u t H1 locs ht hvm hw_14 hB hz1 hk1 hS => ?_)
  obtain ⟨hP1, hK1, hD1⟩ := hB
  rw [ht] at hP1
  obtain ⟨hP, hD⟩ := va_join (wr := [(d0, .inr (0, [.ref d1, .ref d2, .ref (q 1)])), (d1, .inl (cI, N, .inl (fun _ => 2147483647)))]) (w1 := [(d2, .inl (cI, N, .inl (fun _ => 0)))]) hP hD [2] [0, 1] rfl rfl (by decide) (by decide) hk1 hFc hP1 hD1
  generalize H1 = H at hP hS ⊢
  have hP := hP.sub (ws' := [(d0, .inr (0, [.ref d1, .ref d2, .ref (q 1)])), (d1, .inl (cI, N, .inl (fun _ => 2147483647))), (d2, .inl (cI, N, .inl (fun _ => 0)))]) [0, 1, 2] rfl
  have hD := hD.sub (ws' := [(d0, .inr (0, [.ref d1, .ref d2, .ref (q 1)])), (d1, .inl (cI, N, .inl (fun _ => 2147483647))), (d2, .inl (cI, N, .inl (fun _ => 0)))]) [0, 1, 2] (by decide) rfl
  refine lv_aload_n hx hb dX0_beginAt_17 rfl (lv_at hl 0 rfl) ?_
  refine va_get (D := (dC, dI)) (ci := 0) (v := .ref d1) (C := RX0) (T := TX0) (N := 3) hx hb hts fa_beginAt_0 hown hK hP 0 rfl rfl 0 (by decide) (hts _ fa_beginAt_1) (fun _ h9 => h9) rfl dX0_beginAt_18 ?_
  refine lv_iload_n hx hb dX0_beginAt_21 rfl (lv_at hl 1 rfl) ?_
  refine lv_iconst (v := 0) hx hb dX0_beginAt_22 (by decide) ?_
  refine va_iast (D := (dC, dI)) hx hb hK hP hD hS 1 0 rfl rfl (by first | assumption | exact vp_in_nI (by omega) (by omega)) dX0_beginAt_23 (fun H locs hP hD hS => ?_)
  have hP : va_P (dC, dI) vwCl [(d0, .inr (0, [.ref d1, .ref d2, .ref (q 1)])), (d1, .inl (cI, N, .inl (upd (fun _ => 2147483647) (x.toNatClampNeg) 0))), (d2, .inl (cI, N, .inl (fun _ => 0)))] H := hP
  have hD : va_D A [(d0, .inr (0, [.ref d1, .ref d2, .ref (q 1)])), (d1, .inl (cI, N, .inl (upd (fun _ => 2147483647) (x.toNatClampNeg) 0))), (d2, .inl (cI, N, .inl (fun _ => 0)))] := hD
  have hP9 := hP.sub (ws' := [(d0, .inr (0, [.ref d1, .ref d2, .ref (q 1)])), (d1, .inl (cI, N, .inl (upd (fun _ => 2147483647) x.toNatClampNeg 0))), (d2, .inl (cI, N, .inl (fun _ => 0)))]) [0, 1, 2] rfl
  have hD9 := hD.sub (ws' := [(d0, .inr (0, [.ref d1, .ref d2, .ref (q 1)])), (d1, .inl (cI, N, .inl (upd (fun _ => 2147483647) x.toNatClampNeg 0))), (d2, .inl (cI, N, .inl (fun _ => 0)))]) [0, 1, 2] (by decide) rfl
  exact W.vret hx hb hr (fun t ht hW => ⟨⟨(), rfl, trivial, by rw [ht]; exact hP9, va_K.moved hW.alike hK, hD9⟩, hS.F ht⟩) hS.2.2 dX0_beginAt_24

set_option maxHeartbeats 4000000 in
set_option maxRecDepth 100000 in
theorem k_measureFrom (l : Launch) (dC : Nat → ClassId) (dI : Nat → Nat → Nat) (cI cJ cZ : ClassId) (d0 d1 d2 : Nat) (q : Nat → Nat) (N M E : Nat) (fr to cap uc fl : Nat → Int32) (le fe : Nat → Int32) (x : Int32) (sz : Nat) (hE : E ≤ M) (hM : M < 1000) (hN : N < 1000) (hfr : ∀ e, e < E → vp_in (fr e) N) (hto : ∀ e, e < E → vp_in (to e) N) (hx0 : vp_in x N) : Met l yX0_measureFrom wsX0_measureFrom ({ frames := 4, cells := 0, slots := 0, locals := 89 }) (va_Pc [.ref d0, .int x] (fun U => U.heap.size = sz ∧ va_P (dC, dI) vwCl [(d0, .inr (0, [.ref d1, .ref d2, .ref (q 1)])), (d1, .inl (cI, N, .inl le)), (d2, .inl (cI, N, .inl fe)), (q 1, .inr (1, [.int (nI N), .ref (q 2), .ref (q 3), .ref (q 4), .ref (q 5), .ref (q 6), .int (nI E)])), (q 2, .inl (cI, M, .inl fr)), (q 3, .inl (cI, M, .inl to)), (q 4, .inl (cI, M, .inl cap)), (q 5, .inl (cI, M, .inl uc)), (q 6, .inl (cI, M, .inl fl))] U.heap ∧ va_K (dC, dI) vwCl [(cI, .int), (cJ, .long), (cZ, .boolean)] U ∧ va_D (fun _ => True) [(d0, .inr (0, [.ref d1, .ref d2, .ref (q 1)])), (d1, .inl (cI, N, .inl le)), (d2, .inl (cI, N, .inl fe)), (q 1, .inr (1, [.int (nI N), .ref (q 2), .ref (q 3), .ref (q 4), .ref (q 5), .ref (q 6), .int (nI E)])), (q 2, .inl (cI, M, .inl fr)), (q 3, .inl (cI, M, .inl to)), (q 4, .inl (cI, M, .inl cap)), (q 5, .inl (cI, M, .inl uc)), (q 6, .inl (cI, M, .inl fl))])) (va_Qv (fun (u_ : Unit) => True) (fun (u_ : Unit) (t : State) => va_P (dC, dI) vwCl [(d0, .inr (0, [.ref d1, .ref d2, .ref (q 1)])), (d1, .inl (cI, N, .inl ((fp_se false fr to cap uc fl (2 * E) N (upd (fun _ => 2147483647) x.toNatClampNeg 0) (fun _ => 0)).1))), (d2, .inl (cI, N, .inl ((fp_se false fr to cap uc fl (2 * E) N (upd (fun _ => 2147483647) x.toNatClampNeg 0) (fun _ => 0)).2.1))), (q 1, .inr (1, [.int (nI N), .ref (q 2), .ref (q 3), .ref (q 4), .ref (q 5), .ref (q 6), .int (nI E)])), (q 2, .inl (cI, M, .inl fr)), (q 3, .inl (cI, M, .inl to)), (q 4, .inl (cI, M, .inl cap)), (q 5, .inl (cI, M, .inl uc)), (q 6, .inl (cI, M, .inl fl))] t.heap ∧ va_K (dC, dI) vwCl [(cI, .int), (cJ, .long), (cZ, .boolean)] t ∧ va_D (va_A [(d0, .inr (0, [.ref d1, .ref d2, .ref (q 1)])), (d1, .inl (cI, N, .inl le)), (d2, .inl (cI, N, .inl fe)), (q 1, .inr (1, [.int (nI N), .ref (q 2), .ref (q 3), .ref (q 4), .ref (q 5), .ref (q 6), .int (nI E)])), (q 2, .inl (cI, M, .inl fr)), (q 3, .inl (cI, M, .inl to)), (q 4, .inl (cI, M, .inl cap)), (q 5, .inl (cI, M, .inl uc)), (q 6, .inl (cI, M, .inl fl))] sz) [(d0, .inr (0, [.ref d1, .ref d2, .ref (q 1)])), (d1, .inl (cI, N, .inl ((fp_se false fr to cap uc fl (2 * E) N (upd (fun _ => 2147483647) x.toNatClampNeg 0) (fun _ => 0)).1))), (d2, .inl (cI, N, .inl ((fp_se false fr to cap uc fl (2 * E) N (upd (fun _ => 2147483647) x.toNatClampNeg 0) (fun _ => 0)).2.1))), (q 1, .inr (1, [.int (nI N), .ref (q 2), .ref (q 3), .ref (q 4), .ref (q 5), .ref (q 6), .int (nI E)])), (q 2, .inl (cI, M, .inl fr)), (q 3, .inl (cI, M, .inl to)), (q 4, .inl (cI, M, .inl cap)), (q 5, .inl (cI, M, .inl uc)), (q 6, .inl (cI, M, .inl fl))]) (va_A [(d0, .inr (0, [.ref d1, .ref d2, .ref (q 1)])), (d1, .inl (cI, N, .inl le)), (d2, .inl (cI, N, .inl fe)), (q 1, .inr (1, [.int (nI N), .ref (q 2), .ref (q 3), .ref (q 4), .ref (q 5), .ref (q 6), .int (nI E)])), (q 2, .inl (cI, M, .inl fr)), (q 3, .inl (cI, M, .inl to)), (q 4, .inl (cI, M, .inl cap)), (q 5, .inl (cI, M, .inl uc)), (q 6, .inl (cI, M, .inl fl))] sz)) 0 0 (va_A [(d0, .inr (0, [.ref d1, .ref d2, .ref (q 1)])), (d1, .inl (cI, N, .inl le)), (d2, .inl (cI, N, .inl fe)), (q 1, .inr (1, [.int (nI N), .ref (q 2), .ref (q 3), .ref (q 4), .ref (q 5), .ref (q 6), .int (nI E)])), (q 2, .inl (cI, M, .inl fr)), (q 3, .inl (cI, M, .inl to)), (q 4, .inl (cI, M, .inl cap)), (q 5, .inl (cI, M, .inl uc)), (q 6, .inl (cI, M, .inl fl))] sz) := by
  refine Met.ofW (cc := cX0_measureFrom) (maxL := 2) (ret := none) (by decide) rfl ?_
  intro p e s m args below meth c s₁ B hml hv
  obtain ⟨rfl, hsz, hP, hK, hD0⟩ := hv
  have hx := B.exec
  have hb := B.bytes
  have hr := B.returns
  have hts := atoms_spec (ws := wsX0_measureFrom) B.pre
  have hown : s.vm.findClass RX0 = some m.cls := findClass_of_methodNamed B.named
  have hlocks := B.notSynchronized
  subst hsz
  have hD := hD0.self (sz := s.heap.size)
  generalize hAe : va_A [(d0, .inr (0, [.ref d1, .ref d2, .ref (q 1)])), (d1, .inl (cI, N, .inl le)), (d2, .inl (cI, N, .inl fe)), (q 1, .inr (1, [.int (nI N), .ref (q 2), .ref (q 3), .ref (q 4), .ref (q 5), .ref (q 6), .int (nI E)])), (q 2, .inl (cI, M, .inl fr)), (q 3, .inl (cI, M, .inl to)), (q 4, .inl (cI, M, .inl cap)), (q 5, .inl (cI, M, .inl uc)), (q 6, .inl (cI, M, .inl fl))] s.heap.size = A at hD ⊢
  have hA : ∀ q : Nat, s.heap.size ≤ q → A q := fun q h => by rw [← hAe]; exact Or.inr h
  have hS : va_S A s.heap s.heap [] := va_S.rf
  have hP : va_P (dC, dI) vwCl [(d0, .inr (0, [.ref d1, .ref d2, .ref (q 1)])), (d1, .inl (cI, N, .inl le)), (d2, .inl (cI, N, .inl fe)), (q 1, .inr (1, [.int (nI N), .ref (q 2), .ref (q 3), .ref (q 4), .ref (q 5), .ref (q 6), .int (nI E)])), (q 2, .inl (cI, M, .inl fr)), (q 3, .inl (cI, M, .inl to)), (q 4, .inl (cI, M, .inl cap)), (q 5, .inl (cI, M, .inl uc)), (q 6, .inl (cI, M, .inl fl))] s.heap := hP
  have hl := lv_entry ([.ref d0, .int x]) (n := 2) (Nat.le_of_ble_eq_true rfl)
  rw [lg_entry_eq]
  generalize (lg_sl ([.ref d0, .int x]) ++ List.replicate (2 - (lg_sl ([.ref d0, .int x])).length) Slot.unset).toArray = ls at hl ⊢
  have hl : lv_has ls 2 [(0, .ref d0), (1, .int x)] := hl
  refine lv_aload_n hx hb dX0_measureFrom_0 rfl (lv_at hl 0 rfl) ?_
  refine lv_iload_n hx hb dX0_measureFrom_1 rfl (lv_at hl 1 rfl) ?_
  have hPc := hP.sub (ws' := [(d0, .inr (0, [.ref d1, .ref d2, .ref (q 1)])), (d1, .inl (cI, N, .inl le)), (d2, .inl (cI, N, .inl fe))]) [0, 1, 2] rfl
  have hDc := hD.sub (ws' := [(d0, .inr (0, [.ref d1, .ref d2, .ref (q 1)])), (d1, .inl (cI, N, .inl le)), (d2, .inl (cI, N, .inl fe))]) [0, 1, 2] (by decide) rfl
  have hFc := va_free (wc := [(d0, .inr (0, [.ref d1, .ref d2, .ref (q 1)])), (d1, .inl (cI, N, .inl le)), (d2, .inl (cI, N, .inl fe))]) hD hS hA [0, 1, 2] rfl
  refine va_callv (va_runV (As := [.int x]) (rest := []) ⟨hx, hb, hml, hown, hts⟩ (k_beginAt l dC dI cI cJ cZ d0 d1 d2 q N le fe x s.heap.size hN (by assumption)) (cwV 1 hts gX0_measureFrom_X0_beginAt rfl rfl rfl (by decide +kernel) ⟨Nat.le_of_ble_eq_true rfl, Nat.le_of_ble_eq_true rfl⟩) ⟨fun a U g mk q => by obtain ⟨q0, q1, qP, qK, qD⟩ := q; exact ⟨q0, q1, qP, va_K.moved (u := U) (U := U.calling g mk a) (Vm.Alike.refl U.vm) qK, qD⟩, va_recv hK hP (ci := 0) (q0 := 0) rfl rfl, fun U hU hW => ⟨rfl, by rw [hU], by rw [hU]; exact hPc, va_K.moved hW.alike hK, hDc.weaken (fun _ _ _ _ => trivial)⟩⟩ rfl rfl hl.1 rfl (lv_room (Nat.le_of_ble_eq_true rfl)) dX0_measureFrom_2 ⟨Nat.le_of_ble_eq_true rfl, Nat.le_of_ble_eq_true rfl⟩) hS (fun q _ h => hFc q h) hFc (fun u t H1 locs ht hvm hw_2 hB hz1 hk1 hS => ?_)
  obtain ⟨hP1, hK1, hD1⟩ := hB
  rw [ht] at hP1
  obtain ⟨hP, hD⟩ := va_join (wr := [(q 1, .inr (1, [.int (nI N), .ref (q 2), .ref (q 3), .ref (q 4), .ref (q 5), .ref (q 6), .int (nI E)])), (q 2, .inl (cI, M, .inl fr)), (q 3, .inl (cI, M, .inl to)), (q 4, .inl (cI, M, .inl cap)), (q 5, .inl (cI, M, .inl uc)), (q 6, .inl (cI, M, .inl fl))]) (w1 := [(d0, .inr (0, [.ref d1, .ref d2, .ref (q 1)])), (d1, .inl (cI, N, .inl (upd (fun _ => 2147483647) x.toNatClampNeg 0))), (d2, .inl (cI, N, .inl (fun _ => 0)))]) hP hD [0, 1, 2] [3, 4, 5, 6, 7, 8] rfl rfl (by decide) (by decide) hk1 hFc hP1 hD1
  generalize H1 = H at hP hS ⊢
  have hP := hP.sub (ws' := [(d0, .inr (0, [.ref d1, .ref d2, .ref (q 1)])), (d1, .inl (cI, N, .inl (upd (fun _ => 2147483647) x.toNatClampNeg 0))), (d2, .inl (cI, N, .inl (fun _ => 0))), (q 1, .inr (1, [.int (nI N), .ref (q 2), .ref (q 3), .ref (q 4), .ref (q 5), .ref (q 6), .int (nI E)])), (q 2, .inl (cI, M, .inl fr)), (q 3, .inl (cI, M, .inl to)), (q 4, .inl (cI, M, .inl cap)), (q 5, .inl (cI, M, .inl uc)), (q 6, .inl (cI, M, .inl fl))]) [6, 7, 8, 0, 1, 2, 3, 4, 5] rfl
  have hD := hD.sub (ws' := [(d0, .inr (0, [.ref d1, .ref d2, .ref (q 1)])), (d1, .inl (cI, N, .inl (upd (fun _ => 2147483647) x.toNatClampNeg 0))), (d2, .inl (cI, N, .inl (fun _ => 0))), (q 1, .inr (1, [.int (nI N), .ref (q 2), .ref (q 3), .ref (q 4), .ref (q 5), .ref (q 6), .int (nI E)])), (q 2, .inl (cI, M, .inl fr)), (q 3, .inl (cI, M, .inl to)), (q 4, .inl (cI, M, .inl cap)), (q 5, .inl (cI, M, .inl uc)), (q 6, .inl (cI, M, .inl fl))]) [6, 7, 8, 0, 1, 2, 3, 4, 5] (by decide) rfl
  refine lv_aload_n hx hb dX0_measureFrom_5 rfl (lv_at hl 0 rfl) ?_
  refine lv_iconst (v := 0) hx hb dX0_measureFrom_6 (by decide) ?_
  have hPc := hP.sub (ws' := [(d0, .inr (0, [.ref d1, .ref d2, .ref (q 1)])), (d1, .inl (cI, N, .inl (upd (fun _ => 2147483647) x.toNatClampNeg 0))), (d2, .inl (cI, N, .inl (fun _ => 0))), (q 1, .inr (1, [.int (nI N), .ref (q 2), .ref (q 3), .ref (q 4), .ref (q 5), .ref (q 6), .int (nI E)])), (q 2, .inl (cI, M, .inl fr)), (q 3, .inl (cI, M, .inl to)), (q 4, .inl (cI, M, .inl cap)), (q 5, .inl (cI, M, .inl uc)), (q 6, .inl (cI, M, .inl fl))]) [0, 1, 2, 3, 4, 5, 6, 7, 8] rfl
  have hDc := hD.sub (ws' := [(d0, .inr (0, [.ref d1, .ref d2, .ref (q 1)])), (d1, .inl (cI, N, .inl (upd (fun _ => 2147483647) x.toNatClampNeg 0))), (d2, .inl (cI, N, .inl (fun _ => 0))), (q 1, .inr (1, [.int (nI N), .ref (q 2), .ref (q 3), .ref (q 4), .ref (q 5), .ref (q 6), .int (nI E)])), (q 2, .inl (cI, M, .inl fr)), (q 3, .inl (cI, M, .inl to)), (q 4, .inl (cI, M, .inl cap)), (q 5, .inl (cI, M, .inl uc)), (q 6, .inl (cI, M, .inl fl))]) [0, 1, 2, 3, 4, 5, 6, 7, 8] (by decide) rfl
  have hFc := va_free (wc := [(d0, .inr (0, [.ref d1, .ref d2, .ref (q 1)])), (d1, .inl (cI, N, .inl (upd (fun _ => 2147483647) x.toNatClampNeg 0))), (d2, .inl (cI, N, .inl (fun _ => 0))), (q 1, .inr (1, [.int (nI N), .ref (q 2), .ref (q 3), .ref (q 4), .ref (q 5), .ref (q 6), .int (nI E)])), (q 2, .inl (cI, M, .inl fr)), (q 3, .inl (cI, M, .inl to)), (q 4, .inl (cI, M, .inl cap)), (q 5, .inl (cI, M, .inl uc)), (q 6, .inl (cI, M, .inl fl))]) hD hS hA [0, 1, 2, 3, 4, 5, 6, 7, 8] rfl
  refine va_calli (va_runV (As := [.int 0]) (rest := []) ⟨hx, hb, hml, hown, hts⟩ (k_settleF l dC dI cI cJ cZ d0 d1 d2 q N M E fr to cap uc fl (upd (fun _ => 2147483647) x.toNatClampNeg 0) (fun _ => 0) H.size hE hM hN hfr hto) (cwV 1 hts gX0_measureFrom_X0_settle rfl rfl rfl (by decide +kernel) ⟨Nat.le_of_ble_eq_true rfl, Nat.le_of_ble_eq_true rfl⟩) ⟨fun a U g mk q => by obtain ⟨q0, q1, qP, qK, qD⟩ := q; exact ⟨q0, q1, qP, va_K.moved (u := U) (U := U.calling g mk a) (Vm.Alike.refl U.vm) qK, qD⟩, va_recv hK hP (ci := 0) (q0 := 0) rfl rfl, fun U hU hW => ⟨rfl, by rw [hU], by rw [hU]; exact hPc, va_K.moved hW.alike hK, hDc.weaken (fun _ _ _ _ => trivial)⟩⟩ rfl rfl hl.1 rfl (lv_room (Nat.le_of_ble_eq_true rfl)) dX0_measureFrom_7 ⟨Nat.le_of_ble_eq_true rfl, Nat.le_of_ble_eq_true rfl⟩) hS (fun q _ h => hFc q h) hFc (fun r_7 u t H1 locs ht hvm hw_7 hB hz1 hk1 hS => ?_)
  obtain ⟨hP1, hK1, hD1⟩ := hB
  rw [ht] at hP1
  obtain ⟨hP, hD⟩ := va_join (wr := []) (w1 := [(d0, .inr (0, [.ref d1, .ref d2, .ref (q 1)])), (d1, .inl (cI, N, .inl ((fp_se false fr to cap uc fl (2 * E) N (upd (fun _ => 2147483647) x.toNatClampNeg 0) (fun _ => 0)).1))), (d2, .inl (cI, N, .inl ((fp_se false fr to cap uc fl (2 * E) N (upd (fun _ => 2147483647) x.toNatClampNeg 0) (fun _ => 0)).2.1))), (q 1, .inr (1, [.int (nI N), .ref (q 2), .ref (q 3), .ref (q 4), .ref (q 5), .ref (q 6), .int (nI E)])), (q 2, .inl (cI, M, .inl fr)), (q 3, .inl (cI, M, .inl to)), (q 4, .inl (cI, M, .inl cap)), (q 5, .inl (cI, M, .inl uc)), (q 6, .inl (cI, M, .inl fl))]) hP hD [0, 1, 2, 3, 4, 5, 6, 7, 8] [] rfl rfl (by decide) (by decide) hk1 hFc hP1 hD1
  generalize H1 = H at hP hS ⊢
  have hP := hP.sub (ws' := [(d0, .inr (0, [.ref d1, .ref d2, .ref (q 1)])), (d1, .inl (cI, N, .inl ((fp_se false fr to cap uc fl (2 * E) N (upd (fun _ => 2147483647) x.toNatClampNeg 0) (fun _ => 0)).1))), (d2, .inl (cI, N, .inl ((fp_se false fr to cap uc fl (2 * E) N (upd (fun _ => 2147483647) x.toNatClampNeg 0) (fun _ => 0)).2.1))), (q 1, .inr (1, [.int (nI N), .ref (q 2), .ref (q 3), .ref (q 4), .ref (q 5), .ref (q 6), .int (nI E)])), (q 2, .inl (cI, M, .inl fr)), (q 3, .inl (cI, M, .inl to)), (q 4, .inl (cI, M, .inl cap)), (q 5, .inl (cI, M, .inl uc)), (q 6, .inl (cI, M, .inl fl))]) [0, 1, 2, 3, 4, 5, 6, 7, 8] rfl
  have hD := hD.sub (ws' := [(d0, .inr (0, [.ref d1, .ref d2, .ref (q 1)])), (d1, .inl (cI, N, .inl ((fp_se false fr to cap uc fl (2 * E) N (upd (fun _ => 2147483647) x.toNatClampNeg 0) (fun _ => 0)).1))), (d2, .inl (cI, N, .inl ((fp_se false fr to cap uc fl (2 * E) N (upd (fun _ => 2147483647) x.toNatClampNeg 0) (fun _ => 0)).2.1))), (q 1, .inr (1, [.int (nI N), .ref (q 2), .ref (q 3), .ref (q 4), .ref (q 5), .ref (q 6), .int (nI E)])), (q 2, .inl (cI, M, .inl fr)), (q 3, .inl (cI, M, .inl to)), (q 4, .inl (cI, M, .inl cap)), (q 5, .inl (cI, M, .inl uc)), (q 6, .inl (cI, M, .inl fl))]) [0, 1, 2, 3, 4, 5, 6, 7, 8] (by decide) rfl
  obtain rfl := hw_7
  refine lv_pop hx hb dX0_measureFrom_10 rfl ?_
  have hP9 := hP.sub (ws' := [(d0, .inr (0, [.ref d1, .ref d2, .ref (q 1)])), (d1, .inl (cI, N, .inl ((fp_se false fr to cap uc fl (2 * E) N (upd (fun _ => 2147483647) x.toNatClampNeg 0) (fun _ => 0)).1))), (d2, .inl (cI, N, .inl ((fp_se false fr to cap uc fl (2 * E) N (upd (fun _ => 2147483647) x.toNatClampNeg 0) (fun _ => 0)).2.1))), (q 1, .inr (1, [.int (nI N), .ref (q 2), .ref (q 3), .ref (q 4), .ref (q 5), .ref (q 6), .int (nI E)])), (q 2, .inl (cI, M, .inl fr)), (q 3, .inl (cI, M, .inl to)), (q 4, .inl (cI, M, .inl cap)), (q 5, .inl (cI, M, .inl uc)), (q 6, .inl (cI, M, .inl fl))]) [0, 1, 2, 3, 4, 5, 6, 7, 8] rfl
  have hD9 := hD.sub (ws' := [(d0, .inr (0, [.ref d1, .ref d2, .ref (q 1)])), (d1, .inl (cI, N, .inl ((fp_se false fr to cap uc fl (2 * E) N (upd (fun _ => 2147483647) x.toNatClampNeg 0) (fun _ => 0)).1))), (d2, .inl (cI, N, .inl ((fp_se false fr to cap uc fl (2 * E) N (upd (fun _ => 2147483647) x.toNatClampNeg 0) (fun _ => 0)).2.1))), (q 1, .inr (1, [.int (nI N), .ref (q 2), .ref (q 3), .ref (q 4), .ref (q 5), .ref (q 6), .int (nI E)])), (q 2, .inl (cI, M, .inl fr)), (q 3, .inl (cI, M, .inl to)), (q 4, .inl (cI, M, .inl cap)), (q 5, .inl (cI, M, .inl uc)), (q 6, .inl (cI, M, .inl fl))]) [0, 1, 2, 3, 4, 5, 6, 7, 8] (by decide) rfl
  exact W.vret hx hb hr (fun t ht hW => ⟨⟨(), rfl, trivial, by rw [ht]; exact hP9, va_K.moved hW.alike hK, hD9⟩, hS.F ht⟩) hS.2.2 dX0_measureFrom_11

set_option maxHeartbeats 4000000 in
set_option maxRecDepth 100000 in
theorem k_measureTo (l : Launch) (dC : Nat → ClassId) (dI : Nat → Nat → Nat) (cI cJ cZ : ClassId) (d0 d1 d2 : Nat) (q : Nat → Nat) (N M E : Nat) (fr to cap uc fl : Nat → Int32) (le fe : Nat → Int32) (x : Int32) (sz : Nat) (hE : E ≤ M) (hM : M < 1000) (hN : N < 1000) (hfr : ∀ e, e < E → vp_in (fr e) N) (hto : ∀ e, e < E → vp_in (to e) N) (hx0 : vp_in x N) : Met l yX0_measureTo wsX0_measureTo ({ frames := 4, cells := 0, slots := 0, locals := 89 }) (va_Pc [.ref d0, .int x] (fun U => U.heap.size = sz ∧ va_P (dC, dI) vwCl [(d0, .inr (0, [.ref d1, .ref d2, .ref (q 1)])), (d1, .inl (cI, N, .inl le)), (d2, .inl (cI, N, .inl fe)), (q 1, .inr (1, [.int (nI N), .ref (q 2), .ref (q 3), .ref (q 4), .ref (q 5), .ref (q 6), .int (nI E)])), (q 2, .inl (cI, M, .inl fr)), (q 3, .inl (cI, M, .inl to)), (q 4, .inl (cI, M, .inl cap)), (q 5, .inl (cI, M, .inl uc)), (q 6, .inl (cI, M, .inl fl))] U.heap ∧ va_K (dC, dI) vwCl [(cI, .int), (cJ, .long), (cZ, .boolean)] U ∧ va_D (fun _ => True) [(d0, .inr (0, [.ref d1, .ref d2, .ref (q 1)])), (d1, .inl (cI, N, .inl le)), (d2, .inl (cI, N, .inl fe)), (q 1, .inr (1, [.int (nI N), .ref (q 2), .ref (q 3), .ref (q 4), .ref (q 5), .ref (q 6), .int (nI E)])), (q 2, .inl (cI, M, .inl fr)), (q 3, .inl (cI, M, .inl to)), (q 4, .inl (cI, M, .inl cap)), (q 5, .inl (cI, M, .inl uc)), (q 6, .inl (cI, M, .inl fl))])) (va_Qv (fun (u_ : Unit) => True) (fun (u_ : Unit) (t : State) => va_P (dC, dI) vwCl [(d0, .inr (0, [.ref d1, .ref d2, .ref (q 1)])), (d1, .inl (cI, N, .inl ((fp_se true fr to cap uc fl (2 * E) N (upd (fun _ => 2147483647) x.toNatClampNeg 0) (fun _ => 0)).1))), (d2, .inl (cI, N, .inl ((fp_se true fr to cap uc fl (2 * E) N (upd (fun _ => 2147483647) x.toNatClampNeg 0) (fun _ => 0)).2.1))), (q 1, .inr (1, [.int (nI N), .ref (q 2), .ref (q 3), .ref (q 4), .ref (q 5), .ref (q 6), .int (nI E)])), (q 2, .inl (cI, M, .inl fr)), (q 3, .inl (cI, M, .inl to)), (q 4, .inl (cI, M, .inl cap)), (q 5, .inl (cI, M, .inl uc)), (q 6, .inl (cI, M, .inl fl))] t.heap ∧ va_K (dC, dI) vwCl [(cI, .int), (cJ, .long), (cZ, .boolean)] t ∧ va_D (va_A [(d0, .inr (0, [.ref d1, .ref d2, .ref (q 1)])), (d1, .inl (cI, N, .inl le)), (d2, .inl (cI, N, .inl fe)), (q 1, .inr (1, [.int (nI N), .ref (q 2), .ref (q 3), .ref (q 4), .ref (q 5), .ref (q 6), .int (nI E)])), (q 2, .inl (cI, M, .inl fr)), (q 3, .inl (cI, M, .inl to)), (q 4, .inl (cI, M, .inl cap)), (q 5, .inl (cI, M, .inl uc)), (q 6, .inl (cI, M, .inl fl))] sz) [(d0, .inr (0, [.ref d1, .ref d2, .ref (q 1)])), (d1, .inl (cI, N, .inl ((fp_se true fr to cap uc fl (2 * E) N (upd (fun _ => 2147483647) x.toNatClampNeg 0) (fun _ => 0)).1))), (d2, .inl (cI, N, .inl ((fp_se true fr to cap uc fl (2 * E) N (upd (fun _ => 2147483647) x.toNatClampNeg 0) (fun _ => 0)).2.1))), (q 1, .inr (1, [.int (nI N), .ref (q 2), .ref (q 3), .ref (q 4), .ref (q 5), .ref (q 6), .int (nI E)])), (q 2, .inl (cI, M, .inl fr)), (q 3, .inl (cI, M, .inl to)), (q 4, .inl (cI, M, .inl cap)), (q 5, .inl (cI, M, .inl uc)), (q 6, .inl (cI, M, .inl fl))]) (va_A [(d0, .inr (0, [.ref d1, .ref d2, .ref (q 1)])), (d1, .inl (cI, N, .inl le)), (d2, .inl (cI, N, .inl fe)), (q 1, .inr (1, [.int (nI N), .ref (q 2), .ref (q 3), .ref (q 4), .ref (q 5), .ref (q 6), .int (nI E)])), (q 2, .inl (cI, M, .inl fr)), (q 3, .inl (cI, M, .inl to)), (q 4, .inl (cI, M, .inl cap)), (q 5, .inl (cI, M, .inl uc)), (q 6, .inl (cI, M, .inl fl))] sz)) 0 0 (va_A [(d0, .inr (0, [.ref d1, .ref d2, .ref (q 1)])), (d1, .inl (cI, N, .inl le)), (d2, .inl (cI, N, .inl fe)), (q 1, .inr (1, [.int (nI N), .ref (q 2), .ref (q 3), .ref (q 4), .ref (q 5), .ref (q 6), .int (nI E)])), (q 2, .inl (cI, M, .inl fr)), (q 3, .inl (cI, M, .inl to)), (q 4, .inl (cI, M, .inl cap)), (q 5, .inl (cI, M, .inl uc)), (q 6, .inl (cI, M, .inl fl))] sz) := by
  refine Met.ofW (cc := cX0_measureTo) (maxL := 2) (ret := none) (by decide) rfl ?_
  intro p e s m args below meth c s₁ B hml hv
  obtain ⟨rfl, hsz, hP, hK, hD0⟩ := hv
  have hx := B.exec
  have hb := B.bytes
  have hr := B.returns
  have hts := atoms_spec (ws := wsX0_measureTo) B.pre
  have hown : s.vm.findClass RX0 = some m.cls := findClass_of_methodNamed B.named
  have hlocks := B.notSynchronized
  subst hsz
  have hD := hD0.self (sz := s.heap.size)
  generalize hAe : va_A [(d0, .inr (0, [.ref d1, .ref d2, .ref (q 1)])), (d1, .inl (cI, N, .inl le)), (d2, .inl (cI, N, .inl fe)), (q 1, .inr (1, [.int (nI N), .ref (q 2), .ref (q 3), .ref (q 4), .ref (q 5), .ref (q 6), .int (nI E)])), (q 2, .inl (cI, M, .inl fr)), (q 3, .inl (cI, M, .inl to)), (q 4, .inl (cI, M, .inl cap)), (q 5, .inl (cI, M, .inl uc)), (q 6, .inl (cI, M, .inl fl))] s.heap.size = A at hD ⊢
  have hA : ∀ q : Nat, s.heap.size ≤ q → A q := fun q h => by rw [← hAe]; exact Or.inr h
  have hS : va_S A s.heap s.heap [] := va_S.rf
  have hP : va_P (dC, dI) vwCl [(d0, .inr (0, [.ref d1, .ref d2, .ref (q 1)])), (d1, .inl (cI, N, .inl le)), (d2, .inl (cI, N, .inl fe)), (q 1, .inr (1, [.int (nI N), .ref (q 2), .ref (q 3), .ref (q 4), .ref (q 5), .ref (q 6), .int (nI E)])), (q 2, .inl (cI, M, .inl fr)), (q 3, .inl (cI, M, .inl to)), (q 4, .inl (cI, M, .inl cap)), (q 5, .inl (cI, M, .inl uc)), (q 6, .inl (cI, M, .inl fl))] s.heap := hP
  have hl := lv_entry ([.ref d0, .int x]) (n := 2) (Nat.le_of_ble_eq_true rfl)
  rw [lg_entry_eq]
  generalize (lg_sl ([.ref d0, .int x]) ++ List.replicate (2 - (lg_sl ([.ref d0, .int x])).length) Slot.unset).toArray = ls at hl ⊢
  have hl : lv_has ls 2 [(0, .ref d0), (1, .int x)] := hl
  refine lv_aload_n hx hb dX0_measureTo_0 rfl (lv_at hl 0 rfl) ?_
  refine lv_iload_n hx hb dX0_measureTo_1 rfl (lv_at hl 1 rfl) ?_
  have hPc := hP.sub (ws' := [(d0, .inr (0, [.ref d1, .ref d2, .ref (q 1)])), (d1, .inl (cI, N, .inl le)), (d2, .inl (cI, N, .inl fe))]) [0, 1, 2] rfl
  have hDc := hD.sub (ws' := [(d0, .inr (0, [.ref d1, .ref d2, .ref (q 1)])), (d1, .inl (cI, N, .inl le)), (d2, .inl (cI, N, .inl fe))]) [0, 1, 2] (by decide) rfl
  have hFc := va_free (wc := [(d0, .inr (0, [.ref d1, .ref d2, .ref (q 1)])), (d1, .inl (cI, N, .inl le)), (d2, .inl (cI, N, .inl fe))]) hD hS hA [0, 1, 2] rfl
  refine va_callv (va_runV (As := [.int x]) (rest := []) ⟨hx, hb, hml, hown, hts⟩ (k_beginAt l dC dI cI cJ cZ d0 d1 d2 q N le fe x s.heap.size hN (by assumption)) (cwV 1 hts gX0_measureTo_X0_beginAt rfl rfl rfl (by decide +kernel) ⟨Nat.le_of_ble_eq_true rfl, Nat.le_of_ble_eq_true rfl⟩) ⟨fun a U g mk q => by obtain ⟨q0, q1, qP, qK, qD⟩ := q; exact ⟨q0, q1, qP, va_K.moved (u := U) (U := U.calling g mk a) (Vm.Alike.refl U.vm) qK, qD⟩, va_recv hK hP (ci := 0) (q0 := 0) rfl rfl, fun U hU hW => ⟨rfl, by rw [hU], by rw [hU]; exact hPc, va_K.moved hW.alike hK, hDc.weaken (fun _ _ _ _ => trivial)⟩⟩ rfl rfl hl.1 rfl (lv_room (Nat.le_of_ble_eq_true rfl)) dX0_measureTo_2 ⟨Nat.le_of_ble_eq_true rfl, Nat.le_of_ble_eq_true rfl⟩) hS (fun q _ h => hFc q h) hFc (fun u t H1 locs ht hvm hw_2 hB hz1 hk1 hS => ?_)
  obtain ⟨hP1, hK1, hD1⟩ := hB
  rw [ht] at hP1
  obtain ⟨hP, hD⟩ := va_join (wr := [(q 1, .inr (1, [.int (nI N), .ref (q 2), .ref (q 3), .ref (q 4), .ref (q 5), .ref (q 6), .int (nI E)])), (q 2, .inl (cI, M, .inl fr)), (q 3, .inl (cI, M, .inl to)), (q 4, .inl (cI, M, .inl cap)), (q 5, .inl (cI, M, .inl uc)), (q 6, .inl (cI, M, .inl fl))]) (w1 := [(d0, .inr (0, [.ref d1, .ref d2, .ref (q 1)])), (d1, .inl (cI, N, .inl (upd (fun _ => 2147483647) x.toNatClampNeg 0))), (d2, .inl (cI, N, .inl (fun _ => 0)))]) hP hD [0, 1, 2] [3, 4, 5, 6, 7, 8] rfl rfl (by decide) (by decide) hk1 hFc hP1 hD1
  generalize H1 = H at hP hS ⊢
  have hP := hP.sub (ws' := [(d0, .inr (0, [.ref d1, .ref d2, .ref (q 1)])), (d1, .inl (cI, N, .inl (upd (fun _ => 2147483647) x.toNatClampNeg 0))), (d2, .inl (cI, N, .inl (fun _ => 0))), (q 1, .inr (1, [.int (nI N), .ref (q 2), .ref (q 3), .ref (q 4), .ref (q 5), .ref (q 6), .int (nI E)])), (q 2, .inl (cI, M, .inl fr)), (q 3, .inl (cI, M, .inl to)), (q 4, .inl (cI, M, .inl cap)), (q 5, .inl (cI, M, .inl uc)), (q 6, .inl (cI, M, .inl fl))]) [6, 7, 8, 0, 1, 2, 3, 4, 5] rfl
  have hD := hD.sub (ws' := [(d0, .inr (0, [.ref d1, .ref d2, .ref (q 1)])), (d1, .inl (cI, N, .inl (upd (fun _ => 2147483647) x.toNatClampNeg 0))), (d2, .inl (cI, N, .inl (fun _ => 0))), (q 1, .inr (1, [.int (nI N), .ref (q 2), .ref (q 3), .ref (q 4), .ref (q 5), .ref (q 6), .int (nI E)])), (q 2, .inl (cI, M, .inl fr)), (q 3, .inl (cI, M, .inl to)), (q 4, .inl (cI, M, .inl cap)), (q 5, .inl (cI, M, .inl uc)), (q 6, .inl (cI, M, .inl fl))]) [6, 7, 8, 0, 1, 2, 3, 4, 5] (by decide) rfl
  refine lv_aload_n hx hb dX0_measureTo_5 rfl (lv_at hl 0 rfl) ?_
  refine lv_iconst (v := 1) hx hb dX0_measureTo_6 (by decide) ?_
  have hPc := hP.sub (ws' := [(d0, .inr (0, [.ref d1, .ref d2, .ref (q 1)])), (d1, .inl (cI, N, .inl (upd (fun _ => 2147483647) x.toNatClampNeg 0))), (d2, .inl (cI, N, .inl (fun _ => 0))), (q 1, .inr (1, [.int (nI N), .ref (q 2), .ref (q 3), .ref (q 4), .ref (q 5), .ref (q 6), .int (nI E)])), (q 2, .inl (cI, M, .inl fr)), (q 3, .inl (cI, M, .inl to)), (q 4, .inl (cI, M, .inl cap)), (q 5, .inl (cI, M, .inl uc)), (q 6, .inl (cI, M, .inl fl))]) [0, 1, 2, 3, 4, 5, 6, 7, 8] rfl
  have hDc := hD.sub (ws' := [(d0, .inr (0, [.ref d1, .ref d2, .ref (q 1)])), (d1, .inl (cI, N, .inl (upd (fun _ => 2147483647) x.toNatClampNeg 0))), (d2, .inl (cI, N, .inl (fun _ => 0))), (q 1, .inr (1, [.int (nI N), .ref (q 2), .ref (q 3), .ref (q 4), .ref (q 5), .ref (q 6), .int (nI E)])), (q 2, .inl (cI, M, .inl fr)), (q 3, .inl (cI, M, .inl to)), (q 4, .inl (cI, M, .inl cap)), (q 5, .inl (cI, M, .inl uc)), (q 6, .inl (cI, M, .inl fl))]) [0, 1, 2, 3, 4, 5, 6, 7, 8] (by decide) rfl
  have hFc := va_free (wc := [(d0, .inr (0, [.ref d1, .ref d2, .ref (q 1)])), (d1, .inl (cI, N, .inl (upd (fun _ => 2147483647) x.toNatClampNeg 0))), (d2, .inl (cI, N, .inl (fun _ => 0))), (q 1, .inr (1, [.int (nI N), .ref (q 2), .ref (q 3), .ref (q 4), .ref (q 5), .ref (q 6), .int (nI E)])), (q 2, .inl (cI, M, .inl fr)), (q 3, .inl (cI, M, .inl to)), (q 4, .inl (cI, M, .inl cap)), (q 5, .inl (cI, M, .inl uc)), (q 6, .inl (cI, M, .inl fl))]) hD hS hA [0, 1, 2, 3, 4, 5, 6, 7, 8] rfl
  refine va_calli (va_runV (As := [.int 1]) (rest := []) ⟨hx, hb, hml, hown, hts⟩ (k_settleT l dC dI cI cJ cZ d0 d1 d2 q N M E fr to cap uc fl (upd (fun _ => 2147483647) x.toNatClampNeg 0) (fun _ => 0) H.size hE hM hN hfr hto) (cwV 1 hts gX0_measureTo_X0_settle rfl rfl rfl (by decide +kernel) ⟨Nat.le_of_ble_eq_true rfl, Nat.le_of_ble_eq_true rfl⟩) ⟨fun a U g mk q => by obtain ⟨q0, q1, qP, qK, qD⟩ := q; exact ⟨q0, q1, qP, va_K.moved (u := U) (U := U.calling g mk a) (Vm.Alike.refl U.vm) qK, qD⟩, va_recv hK hP (ci := 0) (q0 := 0) rfl rfl, fun U hU hW => ⟨rfl, by rw [hU], by rw [hU]; exact hPc, va_K.moved hW.alike hK, hDc.weaken (fun _ _ _ _ => trivial)⟩⟩ rfl rfl hl.1 rfl (lv_room (Nat.le_of_ble_eq_true rfl)) dX0_measureTo_7 ⟨Nat.le_of_ble_eq_true rfl, Nat.le_of_ble_eq_true rfl⟩) hS (fun q _ h => hFc q h) hFc (fun r_7 u t H1 locs ht hvm hw_7 hB hz1 hk1 hS => ?_)
  obtain ⟨hP1, hK1, hD1⟩ := hB
  rw [ht] at hP1
  obtain ⟨hP, hD⟩ := va_join (wr := []) (w1 := [(d0, .inr (0, [.ref d1, .ref d2, .ref (q 1)])), (d1, .inl (cI, N, .inl ((fp_se true fr to cap uc fl (2 * E) N (upd (fun _ => 2147483647) x.toNatClampNeg 0) (fun _ => 0)).1))), (d2, .inl (cI, N, .inl ((fp_se true fr to cap uc fl (2 * E) N (upd (fun _ => 2147483647) x.toNatClampNeg 0) (fun _ => 0)).2.1))), (q 1, .inr (1, [.int (nI N), .ref (q 2), .ref (q 3), .ref (q 4), .ref (q 5), .ref (q 6), .int (nI E)])), (q 2, .inl (cI, M, .inl fr)), (q 3, .inl (cI, M, .inl to)), (q 4, .inl (cI, M, .inl cap)), (q 5, .inl (cI, M, .inl uc)), (q 6, .inl (cI, M, .inl fl))]) hP hD [0, 1, 2, 3, 4, 5, 6, 7, 8] [] rfl rfl (by decide) (by decide) hk1 hFc hP1 hD1
  generalize H1 = H at hP hS ⊢
  have hP := hP.sub (ws' := [(d0, .inr (0, [.ref d1, .ref d2, .ref (q 1)])), (d1, .inl (cI, N, .inl ((fp_se true fr to cap uc fl (2 * E) N (upd (fun _ => 2147483647) x.toNatClampNeg 0) (fun _ => 0)).1))), (d2, .inl (cI, N, .inl ((fp_se true fr to cap uc fl (2 * E) N (upd (fun _ => 2147483647) x.toNatClampNeg 0) (fun _ => 0)).2.1))), (q 1, .inr (1, [.int (nI N), .ref (q 2), .ref (q 3), .ref (q 4), .ref (q 5), .ref (q 6), .int (nI E)])), (q 2, .inl (cI, M, .inl fr)), (q 3, .inl (cI, M, .inl to)), (q 4, .inl (cI, M, .inl cap)), (q 5, .inl (cI, M, .inl uc)), (q 6, .inl (cI, M, .inl fl))]) [0, 1, 2, 3, 4, 5, 6, 7, 8] rfl
  have hD := hD.sub (ws' := [(d0, .inr (0, [.ref d1, .ref d2, .ref (q 1)])), (d1, .inl (cI, N, .inl ((fp_se true fr to cap uc fl (2 * E) N (upd (fun _ => 2147483647) x.toNatClampNeg 0) (fun _ => 0)).1))), (d2, .inl (cI, N, .inl ((fp_se true fr to cap uc fl (2 * E) N (upd (fun _ => 2147483647) x.toNatClampNeg 0) (fun _ => 0)).2.1))), (q 1, .inr (1, [.int (nI N), .ref (q 2), .ref (q 3), .ref (q 4), .ref (q 5), .ref (q 6), .int (nI E)])), (q 2, .inl (cI, M, .inl fr)), (q 3, .inl (cI, M, .inl to)), (q 4, .inl (cI, M, .inl cap)), (q 5, .inl (cI, M, .inl uc)), (q 6, .inl (cI, M, .inl fl))]) [0, 1, 2, 3, 4, 5, 6, 7, 8] (by decide) rfl
  obtain rfl := hw_7
  refine lv_pop hx hb dX0_measureTo_10 rfl ?_
  have hP9 := hP.sub (ws' := [(d0, .inr (0, [.ref d1, .ref d2, .ref (q 1)])), (d1, .inl (cI, N, .inl ((fp_se true fr to cap uc fl (2 * E) N (upd (fun _ => 2147483647) x.toNatClampNeg 0) (fun _ => 0)).1))), (d2, .inl (cI, N, .inl ((fp_se true fr to cap uc fl (2 * E) N (upd (fun _ => 2147483647) x.toNatClampNeg 0) (fun _ => 0)).2.1))), (q 1, .inr (1, [.int (nI N), .ref (q 2), .ref (q 3), .ref (q 4), .ref (q 5), .ref (q 6), .int (nI E)])), (q 2, .inl (cI, M, .inl fr)), (q 3, .inl (cI, M, .inl to)), (q 4, .inl (cI, M, .inl cap)), (q 5, .inl (cI, M, .inl uc)), (q 6, .inl (cI, M, .inl fl))]) [0, 1, 2, 3, 4, 5, 6, 7, 8] rfl
  have hD9 := hD.sub (ws' := [(d0, .inr (0, [.ref d1, .ref d2, .ref (q 1)])), (d1, .inl (cI, N, .inl ((fp_se true fr to cap uc fl (2 * E) N (upd (fun _ => 2147483647) x.toNatClampNeg 0) (fun _ => 0)).1))), (d2, .inl (cI, N, .inl ((fp_se true fr to cap uc fl (2 * E) N (upd (fun _ => 2147483647) x.toNatClampNeg 0) (fun _ => 0)).2.1))), (q 1, .inr (1, [.int (nI N), .ref (q 2), .ref (q 3), .ref (q 4), .ref (q 5), .ref (q 6), .int (nI E)])), (q 2, .inl (cI, M, .inl fr)), (q 3, .inl (cI, M, .inl to)), (q 4, .inl (cI, M, .inl cap)), (q 5, .inl (cI, M, .inl uc)), (q 6, .inl (cI, M, .inl fl))]) [0, 1, 2, 3, 4, 5, 6, 7, 8] (by decide) rfl
  exact W.vret hx hb hr (fun t ht hW => ⟨⟨(), rfl, trivial, by rw [ht]; exact hP9, va_K.moved hW.alike hK, hD9⟩, hS.F ht⟩) hS.2.2 dX0_measureTo_11

theorem fa_settlesFE_0 : ∀ w ∈ wsX00, w ∈ wsX0_settlesFromEverywhere := by decide +kernel
theorem fa_settlesFE_1 : Cond.fieldLink RX0 21 "FlowProofs$Distances" "least" "[I" ∈ wsX0_settlesFromEverywhere := by decide +kernel
theorem fa_settlesFE_2 : Cond.fieldLink RX0 25 "FlowProofs$Distances" "fewest" "[I" ∈ wsX0_settlesFromEverywhere := by decide +kernel
set_option maxHeartbeats 4000000 in
set_option maxRecDepth 100000 in
theorem k_settlesFE (l : Launch) (dC : Nat → ClassId) (dI : Nat → Nat → Nat) (cI cJ cZ : ClassId) (d0 d1 d2 : Nat) (q : Nat → Nat) (N M E : Nat) (fr to cap uc fl : Nat → Int32) (le fe : Nat → Int32) (sz : Nat) (hE : E ≤ M) (hM : M < 1000) (hN : N < 1000) (hfr : ∀ e, e < E → vp_in (fr e) N) (hto : ∀ e, e < E → vp_in (to e) N) : Met l yX0_settlesFromEverywhere wsX0_settlesFromEverywhere ({ frames := 4, cells := 0, slots := 0, locals := 89 }) (va_Pc [.ref d0] (fun U => U.heap.size = sz ∧ va_P (dC, dI) vwCl [(d0, .inr (0, [.ref d1, .ref d2, .ref (q 1)])), (d1, .inl (cI, N, .inl le)), (d2, .inl (cI, N, .inl fe)), (q 1, .inr (1, [.int (nI N), .ref (q 2), .ref (q 3), .ref (q 4), .ref (q 5), .ref (q 6), .int (nI E)])), (q 2, .inl (cI, M, .inl fr)), (q 3, .inl (cI, M, .inl to)), (q 4, .inl (cI, M, .inl cap)), (q 5, .inl (cI, M, .inl uc)), (q 6, .inl (cI, M, .inl fl))] U.heap ∧ va_K (dC, dI) vwCl [(cI, .int), (cJ, .long), (cZ, .boolean)] U ∧ va_D (fun _ => True) [(d0, .inr (0, [.ref d1, .ref d2, .ref (q 1)])), (d1, .inl (cI, N, .inl le)), (d2, .inl (cI, N, .inl fe)), (q 1, .inr (1, [.int (nI N), .ref (q 2), .ref (q 3), .ref (q 4), .ref (q 5), .ref (q 6), .int (nI E)])), (q 2, .inl (cI, M, .inl fr)), (q 3, .inl (cI, M, .inl to)), (q 4, .inl (cI, M, .inl cap)), (q 5, .inl (cI, M, .inl uc)), (q 6, .inl (cI, M, .inl fl))])) (va_Qi (fun (r : Int32) (u_ : Unit) => r = (fp_se false fr to cap uc fl (2 * E) N (fun _ => 0) (fun _ => 0)).2.2) (fun (u_ : Unit) (t : State) => va_P (dC, dI) vwCl [(d0, .inr (0, [.ref d1, .ref d2, .ref (q 1)])), (d1, .inl (cI, N, .inl ((fp_se false fr to cap uc fl (2 * E) N (fun _ => 0) (fun _ => 0)).1))), (d2, .inl (cI, N, .inl ((fp_se false fr to cap uc fl (2 * E) N (fun _ => 0) (fun _ => 0)).2.1))), (q 1, .inr (1, [.int (nI N), .ref (q 2), .ref (q 3), .ref (q 4), .ref (q 5), .ref (q 6), .int (nI E)])), (q 2, .inl (cI, M, .inl fr)), (q 3, .inl (cI, M, .inl to)), (q 4, .inl (cI, M, .inl cap)), (q 5, .inl (cI, M, .inl uc)), (q 6, .inl (cI, M, .inl fl))] t.heap ∧ va_K (dC, dI) vwCl [(cI, .int), (cJ, .long), (cZ, .boolean)] t ∧ va_D (va_A [(d0, .inr (0, [.ref d1, .ref d2, .ref (q 1)])), (d1, .inl (cI, N, .inl le)), (d2, .inl (cI, N, .inl fe)), (q 1, .inr (1, [.int (nI N), .ref (q 2), .ref (q 3), .ref (q 4), .ref (q 5), .ref (q 6), .int (nI E)])), (q 2, .inl (cI, M, .inl fr)), (q 3, .inl (cI, M, .inl to)), (q 4, .inl (cI, M, .inl cap)), (q 5, .inl (cI, M, .inl uc)), (q 6, .inl (cI, M, .inl fl))] sz) [(d0, .inr (0, [.ref d1, .ref d2, .ref (q 1)])), (d1, .inl (cI, N, .inl ((fp_se false fr to cap uc fl (2 * E) N (fun _ => 0) (fun _ => 0)).1))), (d2, .inl (cI, N, .inl ((fp_se false fr to cap uc fl (2 * E) N (fun _ => 0) (fun _ => 0)).2.1))), (q 1, .inr (1, [.int (nI N), .ref (q 2), .ref (q 3), .ref (q 4), .ref (q 5), .ref (q 6), .int (nI E)])), (q 2, .inl (cI, M, .inl fr)), (q 3, .inl (cI, M, .inl to)), (q 4, .inl (cI, M, .inl cap)), (q 5, .inl (cI, M, .inl uc)), (q 6, .inl (cI, M, .inl fl))]) (va_A [(d0, .inr (0, [.ref d1, .ref d2, .ref (q 1)])), (d1, .inl (cI, N, .inl le)), (d2, .inl (cI, N, .inl fe)), (q 1, .inr (1, [.int (nI N), .ref (q 2), .ref (q 3), .ref (q 4), .ref (q 5), .ref (q 6), .int (nI E)])), (q 2, .inl (cI, M, .inl fr)), (q 3, .inl (cI, M, .inl to)), (q 4, .inl (cI, M, .inl cap)), (q 5, .inl (cI, M, .inl uc)), (q 6, .inl (cI, M, .inl fl))] sz)) 0 0 (va_A [(d0, .inr (0, [.ref d1, .ref d2, .ref (q 1)])), (d1, .inl (cI, N, .inl le)), (d2, .inl (cI, N, .inl fe)), (q 1, .inr (1, [.int (nI N), .ref (q 2), .ref (q 3), .ref (q 4), .ref (q 5), .ref (q 6), .int (nI E)])), (q 2, .inl (cI, M, .inl fr)), (q 3, .inl (cI, M, .inl to)), (q 4, .inl (cI, M, .inl cap)), (q 5, .inl (cI, M, .inl uc)), (q 6, .inl (cI, M, .inl fl))] sz) := by
  refine Met.ofW (cc := cX0_settlesFromEverywhere) (maxL := 1) (ret := (some .boolean)) (by decide) rfl ?_
  intro p e s m args below meth c s₁ B hml hv
  obtain ⟨rfl, hsz, hP, hK, hD0⟩ := hv
  have hx := B.exec
  have hb := B.bytes
  have hr := B.returns
  have hts := atoms_spec (ws := wsX0_settlesFromEverywhere) B.pre
  have hown : s.vm.findClass RX0 = some m.cls := findClass_of_methodNamed B.named
  have hlocks := B.notSynchronized
  subst hsz
  have hD := hD0.self (sz := s.heap.size)
  generalize hAe : va_A [(d0, .inr (0, [.ref d1, .ref d2, .ref (q 1)])), (d1, .inl (cI, N, .inl le)), (d2, .inl (cI, N, .inl fe)), (q 1, .inr (1, [.int (nI N), .ref (q 2), .ref (q 3), .ref (q 4), .ref (q 5), .ref (q 6), .int (nI E)])), (q 2, .inl (cI, M, .inl fr)), (q 3, .inl (cI, M, .inl to)), (q 4, .inl (cI, M, .inl cap)), (q 5, .inl (cI, M, .inl uc)), (q 6, .inl (cI, M, .inl fl))] s.heap.size = A at hD ⊢
  have hA : ∀ q : Nat, s.heap.size ≤ q → A q := fun q h => by rw [← hAe]; exact Or.inr h
  have hS : va_S A s.heap s.heap [] := va_S.rf
  have hP : va_P (dC, dI) vwCl [(d0, .inr (0, [.ref d1, .ref d2, .ref (q 1)])), (d1, .inl (cI, N, .inl le)), (d2, .inl (cI, N, .inl fe)), (q 1, .inr (1, [.int (nI N), .ref (q 2), .ref (q 3), .ref (q 4), .ref (q 5), .ref (q 6), .int (nI E)])), (q 2, .inl (cI, M, .inl fr)), (q 3, .inl (cI, M, .inl to)), (q 4, .inl (cI, M, .inl cap)), (q 5, .inl (cI, M, .inl uc)), (q 6, .inl (cI, M, .inl fl))] s.heap := hP
  have hl := lv_entry ([.ref d0]) (n := 1) (Nat.le_of_ble_eq_true rfl)
  rw [lg_entry_eq]
  generalize (lg_sl ([.ref d0]) ++ List.replicate (1 - (lg_sl ([.ref d0])).length) Slot.unset).toArray = ls at hl ⊢
  have hl : lv_has ls 1 [(0, .ref d0)] := hl
  refine lv_aload_n hx hb dX0_settlesFromEverywhere_0 rfl (lv_at hl 0 rfl) ?_
  refine va_get (D := (dC, dI)) (ci := 0) (v := .ref d1) (C := RX0) (T := TX0) (N := 3) hx hb hts fa_settlesFE_0 hown hK hP 0 rfl rfl 0 (by decide) (hts _ fa_settlesFE_1) (fun _ h9 => h9) rfl dX0_settlesFromEverywhere_1 ?_
  refine lv_iconst (v := 0) hx hb dX0_settlesFromEverywhere_4 (by decide) ?_
  have hPc := hP.sub (ws' := [(d1, .inl (cI, N, .inl le))]) [1] rfl
  have hDc := hD.sub (ws' := [(d1, .inl (cI, N, .inl le))]) [1] (by decide) rfl
  have hFc := va_free (wc := [(d1, .inl (cI, N, .inl le))]) hD hS hA [1] rfl
  refine va_callv (va_runS (As := [.ref d1, .int 0]) (rest := []) ⟨hx, hb, hml, hown, hts⟩ (k_fill l dC dI cI cJ cZ d1 N le 0 s.heap.size (by omega)) (va_cwS 2 hts gX0_settlesFromEverywhere_J7_fill_53178 rfl rfl rfl (by decide +kernel) ⟨Nat.le_of_ble_eq_true rfl, Nat.le_of_ble_eq_true rfl⟩) ⟨fun a U g mk q => by obtain ⟨q0, q1, qP, qK, qD⟩ := q; exact ⟨q0, q1, qP, va_K.moved (u := U) (U := U.calling g mk a) (Vm.Alike.refl U.vm) qK, qD⟩, fun U hU hW => ⟨rfl, by rw [hU], by rw [hU]; exact hPc, va_K.moved hW.alike hK, hDc.weaken (fun _ _ _ _ => trivial)⟩⟩ rfl rfl hl.1 rfl (lv_room (Nat.le_of_ble_eq_true rfl)) dX0_settlesFromEverywhere_5 ⟨Nat.le_of_ble_eq_true rfl, Nat.le_of_ble_eq_true rfl⟩) hS (fun q _ h => hFc q h) hFc (fun u t H1 locs ht hvm hw_5 hB hz1 hk1 hS => ?_)
  obtain ⟨hP1, hK1, hD1⟩ := hB
  rw [ht] at hP1
  obtain ⟨hP, hD⟩ := va_join (wr := [(d0, .inr (0, [.ref d1, .ref d2, .ref (q 1)])), (d2, .inl (cI, N, .inl fe)), (q 1, .inr (1, [.int (nI N), .ref (q 2), .ref (q 3), .ref (q 4), .ref (q 5), .ref (q 6), .int (nI E)])), (q 2, .inl (cI, M, .inl fr)), (q 3, .inl (cI, M, .inl to)), (q 4, .inl (cI, M, .inl cap)), (q 5, .inl (cI, M, .inl uc)), (q 6, .inl (cI, M, .inl fl))]) (w1 := [(d1, .inl (cI, N, .inl (fun _ => 0)))]) hP hD [1] [0, 2, 3, 4, 5, 6, 7, 8] rfl rfl (by decide) (by decide) hk1 hFc hP1 hD1
  generalize H1 = H at hP hS ⊢
  have hP := hP.sub (ws' := [(d0, .inr (0, [.ref d1, .ref d2, .ref (q 1)])), (d1, .inl (cI, N, .inl (fun _ => 0))), (d2, .inl (cI, N, .inl fe)), (q 1, .inr (1, [.int (nI N), .ref (q 2), .ref (q 3), .ref (q 4), .ref (q 5), .ref (q 6), .int (nI E)])), (q 2, .inl (cI, M, .inl fr)), (q 3, .inl (cI, M, .inl to)), (q 4, .inl (cI, M, .inl cap)), (q 5, .inl (cI, M, .inl uc)), (q 6, .inl (cI, M, .inl fl))]) [0, 8, 1, 2, 3, 4, 5, 6, 7] rfl
  have hD := hD.sub (ws' := [(d0, .inr (0, [.ref d1, .ref d2, .ref (q 1)])), (d1, .inl (cI, N, .inl (fun _ => 0))), (d2, .inl (cI, N, .inl fe)), (q 1, .inr (1, [.int (nI N), .ref (q 2), .ref (q 3), .ref (q 4), .ref (q 5), .ref (q 6), .int (nI E)])), (q 2, .inl (cI, M, .inl fr)), (q 3, .inl (cI, M, .inl to)), (q 4, .inl (cI, M, .inl cap)), (q 5, .inl (cI, M, .inl uc)), (q 6, .inl (cI, M, .inl fl))]) [0, 8, 1, 2, 3, 4, 5, 6, 7] (by decide) rfl
  refine lv_aload_n hx hb dX0_settlesFromEverywhere_8 rfl (lv_at hl 0 rfl) ?_
  refine va_get (D := (dC, dI)) (ci := 0) (v := .ref d2) (C := RX0) (T := TX0) (N := 3) hx hb hts fa_settlesFE_0 hown hK hP 0 rfl rfl 1 (by decide) (hts _ fa_settlesFE_2) (fun _ h9 => h9) rfl dX0_settlesFromEverywhere_9 ?_
  refine lv_iconst (v := 0) hx hb dX0_settlesFromEverywhere_12 (by decide) ?_
  have hPc := hP.sub (ws' := [(d2, .inl (cI, N, .inl fe))]) [2] rfl
  have hDc := hD.sub (ws' := [(d2, .inl (cI, N, .inl fe))]) [2] (by decide) rfl
  have hFc := va_free (wc := [(d2, .inl (cI, N, .inl fe))]) hD hS hA [2] rfl
  refine va_callv (va_runS (As := [.ref d2, .int 0]) (rest := []) ⟨hx, hb, hml, hown, hts⟩ (k_fill l dC dI cI cJ cZ d2 N fe 0 H.size (by omega)) (va_cwS 2 hts gX0_settlesFromEverywhere_J7_fill_53178 rfl rfl rfl (by decide +kernel) ⟨Nat.le_of_ble_eq_true rfl, Nat.le_of_ble_eq_true rfl⟩) ⟨fun a U g mk q => by obtain ⟨q0, q1, qP, qK, qD⟩ := q; exact ⟨q0, q1, qP, va_K.moved (u := U) (U := U.calling g mk a) (Vm.Alike.refl U.vm) qK, qD⟩, fun U hU hW => ⟨rfl, by rw [hU], by rw [hU]; exact hPc, va_K.moved hW.alike hK, hDc.weaken (fun _ _ _ _ => trivial)⟩⟩ rfl rfl hl.1 rfl (lv_room (Nat.le_of_ble_eq_true rfl)) dX0_settlesFromEverywhere_13 ⟨Nat.le_of_ble_eq_true rfl, Nat.le_of_ble_eq_true rfl⟩) hS (fun q _ h => hFc q h) hFc (fun u t H1 locs ht hvm hw_13 hB hz1 hk1 hS => ?_)
  obtain ⟨hP1, hK1, hD1⟩ := hB
  rw [ht] at hP1
  obtain ⟨hP, hD⟩ := va_join (wr := [(d0, .inr (0, [.ref d1, .ref d2, .ref (q 1)])), (d1, .inl (cI, N, .inl (fun _ => 0))), (q 1, .inr (1, [.int (nI N), .ref (q 2), .ref (q 3), .ref (q 4), .ref (q 5), .ref (q 6), .int (nI E)])), (q 2, .inl (cI, M, .inl fr)), (q 3, .inl (cI, M, .inl to)), (q 4, .inl (cI, M, .inl cap)), (q 5, .inl (cI, M, .inl uc)), (q 6, .inl (cI, M, .inl fl))]) (w1 := [(d2, .inl (cI, N, .inl (fun _ => 0)))]) hP hD [2] [0, 1, 3, 4, 5, 6, 7, 8] rfl rfl (by decide) (by decide) hk1 hFc hP1 hD1
  generalize H1 = H at hP hS ⊢
  have hP := hP.sub (ws' := [(d0, .inr (0, [.ref d1, .ref d2, .ref (q 1)])), (d1, .inl (cI, N, .inl (fun _ => 0))), (d2, .inl (cI, N, .inl (fun _ => 0))), (q 1, .inr (1, [.int (nI N), .ref (q 2), .ref (q 3), .ref (q 4), .ref (q 5), .ref (q 6), .int (nI E)])), (q 2, .inl (cI, M, .inl fr)), (q 3, .inl (cI, M, .inl to)), (q 4, .inl (cI, M, .inl cap)), (q 5, .inl (cI, M, .inl uc)), (q 6, .inl (cI, M, .inl fl))]) [0, 1, 8, 2, 3, 4, 5, 6, 7] rfl
  have hD := hD.sub (ws' := [(d0, .inr (0, [.ref d1, .ref d2, .ref (q 1)])), (d1, .inl (cI, N, .inl (fun _ => 0))), (d2, .inl (cI, N, .inl (fun _ => 0))), (q 1, .inr (1, [.int (nI N), .ref (q 2), .ref (q 3), .ref (q 4), .ref (q 5), .ref (q 6), .int (nI E)])), (q 2, .inl (cI, M, .inl fr)), (q 3, .inl (cI, M, .inl to)), (q 4, .inl (cI, M, .inl cap)), (q 5, .inl (cI, M, .inl uc)), (q 6, .inl (cI, M, .inl fl))]) [0, 1, 8, 2, 3, 4, 5, 6, 7] (by decide) rfl
  refine lv_aload_n hx hb dX0_settlesFromEverywhere_16 rfl (lv_at hl 0 rfl) ?_
  refine lv_iconst (v := 0) hx hb dX0_settlesFromEverywhere_17 (by decide) ?_
  have hPc := hP.sub (ws' := [(d0, .inr (0, [.ref d1, .ref d2, .ref (q 1)])), (d1, .inl (cI, N, .inl (fun _ => 0))), (d2, .inl (cI, N, .inl (fun _ => 0))), (q 1, .inr (1, [.int (nI N), .ref (q 2), .ref (q 3), .ref (q 4), .ref (q 5), .ref (q 6), .int (nI E)])), (q 2, .inl (cI, M, .inl fr)), (q 3, .inl (cI, M, .inl to)), (q 4, .inl (cI, M, .inl cap)), (q 5, .inl (cI, M, .inl uc)), (q 6, .inl (cI, M, .inl fl))]) [0, 1, 2, 3, 4, 5, 6, 7, 8] rfl
  have hDc := hD.sub (ws' := [(d0, .inr (0, [.ref d1, .ref d2, .ref (q 1)])), (d1, .inl (cI, N, .inl (fun _ => 0))), (d2, .inl (cI, N, .inl (fun _ => 0))), (q 1, .inr (1, [.int (nI N), .ref (q 2), .ref (q 3), .ref (q 4), .ref (q 5), .ref (q 6), .int (nI E)])), (q 2, .inl (cI, M, .inl fr)), (q 3, .inl (cI, M, .inl to)), (q 4, .inl (cI, M, .inl cap)), (q 5, .inl (cI, M, .inl uc)), (q 6, .inl (cI, M, .inl fl))]) [0, 1, 2, 3, 4, 5, 6, 7, 8] (by decide) rfl
  have hFc := va_free (wc := [(d0, .inr (0, [.ref d1, .ref d2, .ref (q 1)])), (d1, .inl (cI, N, .inl (fun _ => 0))), (d2, .inl (cI, N, .inl (fun _ => 0))), (q 1, .inr (1, [.int (nI N), .ref (q 2), .ref (q 3), .ref (q 4), .ref (q 5), .ref (q 6), .int (nI E)])), (q 2, .inl (cI, M, .inl fr)), (q 3, .inl (cI, M, .inl to)), (q 4, .inl (cI, M, .inl cap)), (q 5, .inl (cI, M, .inl uc)), (q 6, .inl (cI, M, .inl fl))]) hD hS hA [0, 1, 2, 3, 4, 5, 6, 7, 8] rfl
  refine va_calli (va_runV (As := [.int 0]) (rest := []) ⟨hx, hb, hml, hown, hts⟩ (k_settleF l dC dI cI cJ cZ d0 d1 d2 q N M E fr to cap uc fl (fun _ => 0) (fun _ => 0) H.size hE hM hN hfr hto) (cwV 1 hts gX0_settlesFromEverywhere_X0_settle rfl rfl rfl (by decide +kernel) ⟨Nat.le_of_ble_eq_true rfl, Nat.le_of_ble_eq_true rfl⟩) ⟨fun a U g mk q => by obtain ⟨q0, q1, qP, qK, qD⟩ := q; exact ⟨q0, q1, qP, va_K.moved (u := U) (U := U.calling g mk a) (Vm.Alike.refl U.vm) qK, qD⟩, va_recv hK hP (ci := 0) (q0 := 0) rfl rfl, fun U hU hW => ⟨rfl, by rw [hU], by rw [hU]; exact hPc, va_K.moved hW.alike hK, hDc.weaken (fun _ _ _ _ => trivial)⟩⟩ rfl rfl hl.1 rfl (lv_room (Nat.le_of_ble_eq_true rfl)) dX0_settlesFromEverywhere_18 ⟨Nat.le_of_ble_eq_true rfl, Nat.le_of_ble_eq_true rfl⟩) hS (fun q _ h => hFc q h) hFc (fun r_18 u t H1 locs ht hvm hw_18 hB hz1 hk1 hS => ?_)
  obtain ⟨hP1, hK1, hD1⟩ := hB
  rw [ht] at hP1
  obtain ⟨hP, hD⟩ := va_join (wr := []) (w1 := [(d0, .inr (0, [.ref d1, .ref d2, .ref (q 1)])), (d1, .inl (cI, N, .inl ((fp_se false fr to cap uc fl (2 * E) N (fun _ => 0) (fun _ => 0)).1))), (d2, .inl (cI, N, .inl ((fp_se false fr to cap uc fl (2 * E) N (fun _ => 0) (fun _ => 0)).2.1))), (q 1, .inr (1, [.int (nI N), .ref (q 2), .ref (q 3), .ref (q 4), .ref (q 5), .ref (q 6), .int (nI E)])), (q 2, .inl (cI, M, .inl fr)), (q 3, .inl (cI, M, .inl to)), (q 4, .inl (cI, M, .inl cap)), (q 5, .inl (cI, M, .inl uc)), (q 6, .inl (cI, M, .inl fl))]) hP hD [0, 1, 2, 3, 4, 5, 6, 7, 8] [] rfl rfl (by decide) (by decide) hk1 hFc hP1 hD1
  generalize H1 = H at hP hS ⊢
  have hP := hP.sub (ws' := [(d0, .inr (0, [.ref d1, .ref d2, .ref (q 1)])), (d1, .inl (cI, N, .inl ((fp_se false fr to cap uc fl (2 * E) N (fun _ => 0) (fun _ => 0)).1))), (d2, .inl (cI, N, .inl ((fp_se false fr to cap uc fl (2 * E) N (fun _ => 0) (fun _ => 0)).2.1))), (q 1, .inr (1, [.int (nI N), .ref (q 2), .ref (q 3), .ref (q 4), .ref (q 5), .ref (q 6), .int (nI E)])), (q 2, .inl (cI, M, .inl fr)), (q 3, .inl (cI, M, .inl to)), (q 4, .inl (cI, M, .inl cap)), (q 5, .inl (cI, M, .inl uc)), (q 6, .inl (cI, M, .inl fl))]) [0, 1, 2, 3, 4, 5, 6, 7, 8] rfl
  have hD := hD.sub (ws' := [(d0, .inr (0, [.ref d1, .ref d2, .ref (q 1)])), (d1, .inl (cI, N, .inl ((fp_se false fr to cap uc fl (2 * E) N (fun _ => 0) (fun _ => 0)).1))), (d2, .inl (cI, N, .inl ((fp_se false fr to cap uc fl (2 * E) N (fun _ => 0) (fun _ => 0)).2.1))), (q 1, .inr (1, [.int (nI N), .ref (q 2), .ref (q 3), .ref (q 4), .ref (q 5), .ref (q 6), .int (nI E)])), (q 2, .inl (cI, M, .inl fr)), (q 3, .inl (cI, M, .inl to)), (q 4, .inl (cI, M, .inl cap)), (q 5, .inl (cI, M, .inl uc)), (q 6, .inl (cI, M, .inl fl))]) [0, 1, 2, 3, 4, 5, 6, 7, 8] (by decide) rfl
  obtain rfl := hw_18
  have hP9 := hP.sub (ws' := [(d0, .inr (0, [.ref d1, .ref d2, .ref (q 1)])), (d1, .inl (cI, N, .inl ((fp_se false fr to cap uc fl (2 * E) N (fun _ => 0) (fun _ => 0)).1))), (d2, .inl (cI, N, .inl ((fp_se false fr to cap uc fl (2 * E) N (fun _ => 0) (fun _ => 0)).2.1))), (q 1, .inr (1, [.int (nI N), .ref (q 2), .ref (q 3), .ref (q 4), .ref (q 5), .ref (q 6), .int (nI E)])), (q 2, .inl (cI, M, .inl fr)), (q 3, .inl (cI, M, .inl to)), (q 4, .inl (cI, M, .inl cap)), (q 5, .inl (cI, M, .inl uc)), (q 6, .inl (cI, M, .inl fl))]) [0, 1, 2, 3, 4, 5, 6, 7, 8] rfl
  have hD9 := hD.sub (ws' := [(d0, .inr (0, [.ref d1, .ref d2, .ref (q 1)])), (d1, .inl (cI, N, .inl ((fp_se false fr to cap uc fl (2 * E) N (fun _ => 0) (fun _ => 0)).1))), (d2, .inl (cI, N, .inl ((fp_se false fr to cap uc fl (2 * E) N (fun _ => 0) (fun _ => 0)).2.1))), (q 1, .inr (1, [.int (nI N), .ref (q 2), .ref (q 3), .ref (q 4), .ref (q 5), .ref (q 6), .int (nI E)])), (q 2, .inl (cI, M, .inl fr)), (q 3, .inl (cI, M, .inl to)), (q 4, .inl (cI, M, .inl cap)), (q 5, .inl (cI, M, .inl uc)), (q 6, .inl (cI, M, .inl fl))]) [0, 1, 2, 3, 4, 5, 6, 7, 8] (by decide) rfl
  exact W.zret (v := ((fp_se false fr to cap uc fl (2 * E) N (fun _ => 0) (fun _ => 0)).2.2)) hx hb hr (nb01 (fp_se_ch false fr to cap uc fl (2 * E) N _ _)) (fun t ht hW => ⟨⟨((fp_se false fr to cap uc fl (2 * E) N (fun _ => 0) (fun _ => 0)).2.2), (), rfl, rfl, by rw [ht]; exact hP9, va_K.moved hW.alike hK, hD9⟩, hS.F ht⟩) hS.2.2 dX0_settlesFromEverywhere_21

theorem fa_lao_0 : ∀ w ∈ wsX00, w ∈ wsX0_leastArcOnward := by decide +kernel
theorem fa_lao_1 : Cond.fieldLink RX0 9 "FlowProofs$Distances" "net" "LFlowProofs$Net;" ∈ wsX0_leastArcOnward := by decide +kernel
theorem fa_lao_2 : Cond.fieldLink RX0 21 "FlowProofs$Distances" "least" "[I" ∈ wsX0_leastArcOnward := by decide +kernel
theorem fa_lao_3 : Cond.fieldLink RX0 25 "FlowProofs$Distances" "fewest" "[I" ∈ wsX0_leastArcOnward := by decide +kernel
set_option maxHeartbeats 4000000 in
set_option maxRecDepth 100000 in
theorem k_lao (l : Launch) (dC : Nat → ClassId) (dI : Nat → Nat → Nat) (cI cJ cZ : ClassId) (d0 d1 d2 : Nat) (q : Nat → Nat) (N M E : Nat) (fr to cap uc fl : Nat → Int32) (le fe : Nat → Int32) (x : Int32) (hE : E ≤ M) (hM : M < 1000) (hN : N < 1000) (hfr : ∀ e, e < E → vp_in (fr e) N) (hto : ∀ e, e < E → vp_in (to e) N) (hx0 : vp_in x N) : Met l yX0_leastArcOnward wsX0_leastArcOnward ({ frames := 2, cells := 0, slots := 0, locals := 42 }) (va_Pc [.ref d0, .int x] (fun U => va_P (dC, dI) vwCl [(d0, .inr (0, [.ref d1, .ref d2, .ref (q 1)])), (d1, .inl (cI, N, .inl le)), (d2, .inl (cI, N, .inl fe)), (q 1, .inr (1, [.int (nI N), .ref (q 2), .ref (q 3), .ref (q 4), .ref (q 5), .ref (q 6), .int (nI E)])), (q 2, .inl (cI, M, .inl fr)), (q 3, .inl (cI, M, .inl to)), (q 4, .inl (cI, M, .inl cap)), (q 5, .inl (cI, M, .inl uc)), (q 6, .inl (cI, M, .inl fl))] U.heap ∧ va_K (dC, dI) vwCl [(cI, .int), (cJ, .long), (cZ, .boolean)] U)) (vp_Si (fun r => r = fp_la (fp_tg fr to cap uc fl le fe x) (2 * E) 0)) 0 0 (fun _ => False) := by
  refine Met.ofW (cc := cX0_leastArcOnward) (maxL := 4) (ret := (some .int)) (by decide) rfl ?_
  intro p e s m args below meth c s₁ B hml hv
  obtain ⟨rfl, hP, hK⟩ := hv
  have hx := B.exec
  have hb := B.bytes
  have hr := B.returns
  have hts := atoms_spec (ws := wsX0_leastArcOnward) B.pre
  have hown : s.vm.findClass RX0 = some m.cls := findClass_of_methodNamed B.named
  have hlocks := B.notSynchronized
  have hP : va_P (dC, dI) vwCl [(d0, .inr (0, [.ref d1, .ref d2, .ref (q 1)])), (d1, .inl (cI, N, .inl le)), (d2, .inl (cI, N, .inl fe)), (q 1, .inr (1, [.int (nI N), .ref (q 2), .ref (q 3), .ref (q 4), .ref (q 5), .ref (q 6), .int (nI E)])), (q 2, .inl (cI, M, .inl fr)), (q 3, .inl (cI, M, .inl to)), (q 4, .inl (cI, M, .inl cap)), (q 5, .inl (cI, M, .inl uc)), (q 6, .inl (cI, M, .inl fl))] s.heap := hP
  have hl := lv_entry ([.ref d0, .int x]) (n := 4) (Nat.le_of_ble_eq_true rfl)
  rw [lg_entry_eq]
  generalize (lg_sl ([.ref d0, .int x]) ++ List.replicate (4 - (lg_sl ([.ref d0, .int x])).length) Slot.unset).toArray = ls at hl ⊢
  have hl : lv_has ls 4 [(0, .ref d0), (1, .int x)] := hl
  refine lv_iconst (v := 0) hx hb dX0_leastArcOnward_0 (by decide) ?_
  refine tp_i (y := nI 0) nI_0.symm ?_
  refine lv_istore_n (lv' := [(2, .int (nI 0)), (0, .ref d0), (1, .int x)]) hx hb dX0_leastArcOnward_1 rfl hl (by decide) rfl (fun ls hl => ?_)
  have lo_a : ∀ (nf : Nat) (i : Nat) (hi : i ≤ 2 * E) (hst : fp_la (fp_tg fr to cap uc fl le fe x) (2 * E - i) i = fp_la (fp_tg fr to cap uc fl le fe x) (2 * E) 0) (hfu : 2 * E - i < nf) (ls : Array Slot) (hl : lv_has ls 4 [(0, .ref d0), (1, .int x), (2, .int (nI i))]), W p l e (headSpec wsX0_leastArcOnward ({ frames := 2, cells := 0, slots := 0, locals := 42 })).room s m ([.ref d0, .int x] : List Value).toArray below meth c s.heap [] 0 0 (MQ below (vp_Si (fun r => r = fp_la (fp_tg fr to cap uc fl le fe x) (2 * E) 0)) ([.ref d0, .int x] : List Value).toArray s 0 0 (fun _ => False)) (F0 m 2 ls [])
    := by
    intro nf
    induction nf with
    | zero => intro i hi hst hfu ls hl; exact absurd hfu (Nat.not_lt_zero _)
    | succ nf ih_a =>
      intro i hi hst hfu ls hl
      refine lv_iload_n hx hb dX0_leastArcOnward_2 rfl (lv_at hl 2 rfl) ?_
      refine lv_aload_n hx hb dX0_leastArcOnward_3 rfl (lv_at hl 0 rfl) ?_
      refine va_get (D := (dC, dI)) (ci := 0) (v := .ref (q 1)) (C := RX0) (T := TX0) (N := 3) hx hb hts fa_lao_0 hown hK hP 0 rfl rfl 2 (by decide) (hts _ fa_lao_1) (fun _ h9 => h9) rfl dX0_leastArcOnward_4 ?_
      have hPc := hP.sub (ws' := [(q 1, .inr (1, [.int (nI N), .ref (q 2), .ref (q 3), .ref (q 4), .ref (q 5), .ref (q 6), .int (nI E)])), (q 2, .inl (cI, M, .inl fr)), (q 3, .inl (cI, M, .inl to)), (q 4, .inl (cI, M, .inl cap)), (q 5, .inl (cI, M, .inl uc)), (q 6, .inl (cI, M, .inl fl))]) [3, 4, 5, 6, 7, 8] rfl
      refine vp_callSi (W.runV (As := []) (rest := [.int (nI i)]) ⟨hx, hb, hml, hown, hts⟩ (k_arcs l dC dI cI cJ cZ q N M E fr to cap uc fl) (cwV 0 hts gX0_leastArcOnward_X1_arcs rfl rfl rfl (by decide +kernel) ⟨Nat.le_of_ble_eq_true rfl, Nat.le_of_ble_eq_true rfl⟩) ⟨fun a U g mk q => by obtain ⟨q0, qP, qK⟩ := q; exact ⟨q0, qP, va_K.moved (u := U) (U := U.calling g mk a) (Vm.Alike.refl U.vm) qK⟩, va_recv hK hP (ci := 1) (q0 := 3) rfl rfl, fun U hU hW => ⟨rfl, by rw [hU]; exact hPc, va_K.moved hW.alike hK⟩⟩ rfl rfl hl.1 rfl (lv_room (Nat.le_of_ble_eq_true rfl)) dX0_leastArcOnward_7 ⟨Nat.le_of_ble_eq_true rfl, Nat.le_of_ble_eq_true rfl⟩) (fun r_7 hw_7 => ?_)
      subst hw_7
      refine lv_icmp_ge (tgt := 108) hx hb dX0_leastArcOnward_10 (by decide) (fun c_10 => ?_) (fun c_10 => ?_)
      · have hge := ix_ge (by omega) (by omega) c_10
        obtain rfl : i = 2 * E := by omega
        rw [Nat.sub_self] at hst
        refine lv_iconst (v := (-1)) hx hb dX0_leastArcOnward_108 (by decide) ?_
        exact W.iret (v := (-1)) hx hb hr (fun t ht _ => ⟨(-1), rfl, hst, ht⟩) (fun _ h => by cases h) dX0_leastArcOnward_109
      · have hlt := ix_lt (by omega) (by omega) c_10
        have hbi := bg_in hfr hto hlt
        have hei := en_in hfr hto hlt
        refine lv_aload_n hx hb dX0_leastArcOnward_13 rfl (lv_at hl 0 rfl) ?_
        refine va_get (D := (dC, dI)) (ci := 0) (v := .ref (q 1)) (C := RX0) (T := TX0) (N := 3) hx hb hts fa_lao_0 hown hK hP 0 rfl rfl 2 (by decide) (hts _ fa_lao_1) (fun _ h9 => h9) rfl dX0_leastArcOnward_14 ?_
        refine lv_iload_n hx hb dX0_leastArcOnward_17 rfl (lv_at hl 2 rfl) ?_
        have hPc := hP.sub (ws' := [(q 1, .inr (1, [.int (nI N), .ref (q 2), .ref (q 3), .ref (q 4), .ref (q 5), .ref (q 6), .int (nI E)])), (q 2, .inl (cI, M, .inl fr)), (q 3, .inl (cI, M, .inl to)), (q 4, .inl (cI, M, .inl cap)), (q 5, .inl (cI, M, .inl uc)), (q 6, .inl (cI, M, .inl fl))]) [3, 4, 5, 6, 7, 8] rfl
        refine vp_callSi (W.runV (As := [.int (nI i)]) (rest := []) ⟨hx, hb, hml, hown, hts⟩ (k_begin l dC dI cI cJ cZ q N M E fr to cap uc fl i (by omega) hM) (cwV 1 hts gX0_leastArcOnward_X1_begin rfl rfl rfl (by decide +kernel) ⟨Nat.le_of_ble_eq_true rfl, Nat.le_of_ble_eq_true rfl⟩) ⟨fun a U g mk q => by obtain ⟨q0, qP, qK⟩ := q; exact ⟨q0, qP, va_K.moved (u := U) (U := U.calling g mk a) (Vm.Alike.refl U.vm) qK⟩, va_recv hK hP (ci := 1) (q0 := 3) rfl rfl, fun U hU hW => ⟨rfl, by rw [hU]; exact hPc, va_K.moved hW.alike hK⟩⟩ rfl rfl hl.1 rfl (lv_room (Nat.le_of_ble_eq_true rfl)) dX0_leastArcOnward_18 ⟨Nat.le_of_ble_eq_true rfl, Nat.le_of_ble_eq_true rfl⟩) (fun r_18 hw_18 => ?_)
        subst hw_18
        refine lv_iload_n hx hb dX0_leastArcOnward_21 rfl (lv_at hl 1 rfl) ?_
        refine lv_icmp_ne (tgt := 102) hx hb dX0_leastArcOnward_22 (by decide) (fun c_22 => ?_) (fun c_22 => ?_)
        · refine lv_iinc (v := nI (i + 1)) (lv' := [(2, .int (nI (i + 1))), (0, .ref d0), (1, .int x)]) hx hb dX0_leastArcOnward_102 hl (k := 2) rfl (by first | exact nI_1 _ | exact nI_add _ _) (by decide) rfl (fun ls hl => ?_)
          refine lv_goto (tgt := 2) hx hb dX0_leastArcOnward_105 (by decide) ?_
          exact ih_a (i + 1) (by first | assumption | omega | rfl) (by rw [← hst, ← la_f hlt]; first | exact tg_1 c_22 | exact tg_2 c_33 | exact tg_3 (rch0 c_53) | exact tg_4 c_80 | exact tg_5 c_97) (by omega) _ (lv_sub hl [1, 2, 0] rfl)
        · refine lv_aload_n hx hb dX0_leastArcOnward_25 rfl (lv_at hl 0 rfl) ?_
          refine va_get (D := (dC, dI)) (ci := 0) (v := .ref (q 1)) (C := RX0) (T := TX0) (N := 3) hx hb hts fa_lao_0 hown hK hP 0 rfl rfl 2 (by decide) (hts _ fa_lao_1) (fun _ h9 => h9) rfl dX0_leastArcOnward_26 ?_
          refine lv_iload_n hx hb dX0_leastArcOnward_29 rfl (lv_at hl 2 rfl) ?_
          have hPc := hP.sub (ws' := [(q 1, .inr (1, [.int (nI N), .ref (q 2), .ref (q 3), .ref (q 4), .ref (q 5), .ref (q 6), .int (nI E)])), (q 2, .inl (cI, M, .inl fr)), (q 3, .inl (cI, M, .inl to)), (q 4, .inl (cI, M, .inl cap)), (q 5, .inl (cI, M, .inl uc)), (q 6, .inl (cI, M, .inl fl))]) [3, 4, 5, 6, 7, 8] rfl
          refine vp_callSi (W.runV (As := [.int (nI i)]) (rest := []) ⟨hx, hb, hml, hown, hts⟩ (k_left l dC dI cI cJ cZ q N M E fr to cap uc fl i (by omega) hM) (cwV 1 hts gX0_leastArcOnward_X1_left rfl rfl rfl (by decide +kernel) ⟨Nat.le_of_ble_eq_true rfl, Nat.le_of_ble_eq_true rfl⟩) ⟨fun a U g mk q => by obtain ⟨q0, qP, qK⟩ := q; exact ⟨q0, qP, va_K.moved (u := U) (U := U.calling g mk a) (Vm.Alike.refl U.vm) qK⟩, va_recv hK hP (ci := 1) (q0 := 3) rfl rfl, fun U hU hW => ⟨rfl, by rw [hU]; exact hPc, va_K.moved hW.alike hK⟩⟩ rfl rfl hl.1 rfl (lv_room (Nat.le_of_ble_eq_true rfl)) dX0_leastArcOnward_30 ⟨Nat.le_of_ble_eq_true rfl, Nat.le_of_ble_eq_true rfl⟩) (fun r_30 hw_30 => ?_)
          subst hw_30
          refine lv_if_gt (tgt := 39) hx hb dX0_leastArcOnward_33 (by decide) (fun c_33 => ?_) (fun c_33 => ?_)
          · refine lv_aload_n hx hb dX0_leastArcOnward_39 rfl (lv_at hl 0 rfl) ?_
            refine va_get (D := (dC, dI)) (ci := 0) (v := .ref (q 1)) (C := RX0) (T := TX0) (N := 3) hx hb hts fa_lao_0 hown hK hP 0 rfl rfl 2 (by decide) (hts _ fa_lao_1) (fun _ h9 => h9) rfl dX0_leastArcOnward_40 ?_
            refine lv_iload_n hx hb dX0_leastArcOnward_43 rfl (lv_at hl 2 rfl) ?_
            have hPc := hP.sub (ws' := [(q 1, .inr (1, [.int (nI N), .ref (q 2), .ref (q 3), .ref (q 4), .ref (q 5), .ref (q 6), .int (nI E)])), (q 2, .inl (cI, M, .inl fr)), (q 3, .inl (cI, M, .inl to)), (q 4, .inl (cI, M, .inl cap)), (q 5, .inl (cI, M, .inl uc)), (q 6, .inl (cI, M, .inl fl))]) [3, 4, 5, 6, 7, 8] rfl
            refine vp_callSi (W.runV (As := [.int (nI i)]) (rest := []) ⟨hx, hb, hml, hown, hts⟩ (k_end l dC dI cI cJ cZ q N M E fr to cap uc fl i (by omega) hM) (cwV 1 hts gX0_leastArcOnward_X1_end rfl rfl rfl (by decide +kernel) ⟨Nat.le_of_ble_eq_true rfl, Nat.le_of_ble_eq_true rfl⟩) ⟨fun a U g mk q => by obtain ⟨q0, qP, qK⟩ := q; exact ⟨q0, qP, va_K.moved (u := U) (U := U.calling g mk a) (Vm.Alike.refl U.vm) qK⟩, va_recv hK hP (ci := 1) (q0 := 3) rfl rfl, fun U hU hW => ⟨rfl, by rw [hU]; exact hPc, va_K.moved hW.alike hK⟩⟩ rfl rfl hl.1 rfl (lv_room (Nat.le_of_ble_eq_true rfl)) dX0_leastArcOnward_44 ⟨Nat.le_of_ble_eq_true rfl, Nat.le_of_ble_eq_true rfl⟩) (fun r_44 hw_44 => ?_)
            subst hw_44
            refine lv_istore_n (lv' := [(3, .int (fp_en fr to i)), (0, .ref d0), (1, .int x), (2, .int (nI i))]) hx hb dX0_leastArcOnward_47 rfl hl (by decide) rfl (fun ls hl => ?_)
            refine lv_aload_n hx hb dX0_leastArcOnward_48 rfl (lv_at hl 1 rfl) ?_
            refine lv_iload_n hx hb dX0_leastArcOnward_49 rfl (lv_at hl 0 rfl) ?_
            have hPc := hP.sub (ws' := [(d0, .inr (0, [.ref d1, .ref d2, .ref (q 1)])), (d1, .inl (cI, N, .inl le)), (d2, .inl (cI, N, .inl fe))]) [0, 1, 2] rfl
            refine vp_callSi (W.runV (As := [.int (fp_en fr to i)]) (rest := []) ⟨hx, hb, hml, hown, hts⟩ (k_reaches l dC dI cI cJ cZ d0 d1 d2 q N le fe (fp_en fr to i) (by assumption)) (cwV 1 hts gX0_leastArcOnward_X0_reaches rfl rfl rfl (by decide +kernel) ⟨Nat.le_of_ble_eq_true rfl, Nat.le_of_ble_eq_true rfl⟩) ⟨fun a U g mk q => by obtain ⟨q0, qP, qK⟩ := q; exact ⟨q0, qP, va_K.moved (u := U) (U := U.calling g mk a) (Vm.Alike.refl U.vm) qK⟩, va_recv hK hP (ci := 0) (q0 := 0) rfl rfl, fun U hU hW => ⟨rfl, by rw [hU]; exact hPc, va_K.moved hW.alike hK⟩⟩ rfl rfl hl.1 rfl (lv_room (Nat.le_of_ble_eq_true rfl)) dX0_leastArcOnward_50 ⟨Nat.le_of_ble_eq_true rfl, Nat.le_of_ble_eq_true rfl⟩) (fun r_50 hw_50 => ?_)
            subst hw_50
            refine lv_if_ne (tgt := 59) hx hb dX0_leastArcOnward_53 (by decide) (fun c_53 => ?_) (fun c_53 => ?_)
            · refine lv_aload_n hx hb dX0_leastArcOnward_59 rfl (lv_at hl 1 rfl) ?_
              refine va_get (D := (dC, dI)) (ci := 0) (v := .ref d1) (C := RX0) (T := TX0) (N := 3) hx hb hts fa_lao_0 hown hK hP 0 rfl rfl 0 (by decide) (hts _ fa_lao_2) (fun _ h9 => h9) rfl dX0_leastArcOnward_60 ?_
              refine lv_iload_n hx hb dX0_leastArcOnward_63 rfl (lv_at hl 0 rfl) ?_
              refine va_iald (D := (dC, dI)) hx hb hK hP 1 0 rfl rfl (by first | assumption | exact vp_in_nI (by omega) (by omega)) dX0_leastArcOnward_64 ?_
              refine lv_aload_n hx hb dX0_leastArcOnward_65 rfl (lv_at hl 1 rfl) ?_
              refine va_get (D := (dC, dI)) (ci := 0) (v := .ref (q 1)) (C := RX0) (T := TX0) (N := 3) hx hb hts fa_lao_0 hown hK hP 0 rfl rfl 2 (by decide) (hts _ fa_lao_1) (fun _ h9 => h9) rfl dX0_leastArcOnward_66 ?_
              refine lv_iload_n hx hb dX0_leastArcOnward_69 rfl (lv_at hl 3 rfl) ?_
              have hPc := hP.sub (ws' := [(q 1, .inr (1, [.int (nI N), .ref (q 2), .ref (q 3), .ref (q 4), .ref (q 5), .ref (q 6), .int (nI E)])), (q 2, .inl (cI, M, .inl fr)), (q 3, .inl (cI, M, .inl to)), (q 4, .inl (cI, M, .inl cap)), (q 5, .inl (cI, M, .inl uc)), (q 6, .inl (cI, M, .inl fl))]) [3, 4, 5, 6, 7, 8] rfl
              refine vp_callSi (W.runV (As := [.int (nI i)]) (rest := [.int (le (fp_en fr to i).toNatClampNeg)]) ⟨hx, hb, hml, hown, hts⟩ (k_price l dC dI cI cJ cZ q N M E fr to cap uc fl i (by omega) hM) (cwV 1 hts gX0_leastArcOnward_X1_price rfl rfl rfl (by decide +kernel) ⟨Nat.le_of_ble_eq_true rfl, Nat.le_of_ble_eq_true rfl⟩) ⟨fun a U g mk q => by obtain ⟨q0, qP, qK⟩ := q; exact ⟨q0, qP, va_K.moved (u := U) (U := U.calling g mk a) (Vm.Alike.refl U.vm) qK⟩, va_recv hK hP (ci := 1) (q0 := 3) rfl rfl, fun U hU hW => ⟨rfl, by rw [hU]; exact hPc, va_K.moved hW.alike hK⟩⟩ rfl rfl hl.1 rfl (lv_room (Nat.le_of_ble_eq_true rfl)) dX0_leastArcOnward_70 ⟨Nat.le_of_ble_eq_true rfl, Nat.le_of_ble_eq_true rfl⟩) (fun r_70 hw_70 => ?_)
              subst hw_70
              refine lv_iadd hx hb dX0_leastArcOnward_73 ?_
              refine lv_aload_n hx hb dX0_leastArcOnward_74 rfl (lv_at hl 1 rfl) ?_
              refine va_get (D := (dC, dI)) (ci := 0) (v := .ref d1) (C := RX0) (T := TX0) (N := 3) hx hb hts fa_lao_0 hown hK hP 0 rfl rfl 0 (by decide) (hts _ fa_lao_2) (fun _ h9 => h9) rfl dX0_leastArcOnward_75 ?_
              refine lv_iload_n hx hb dX0_leastArcOnward_78 rfl (lv_at hl 2 rfl) ?_
              refine va_iald (D := (dC, dI)) hx hb hK hP 1 0 rfl rfl (by first | assumption | exact vp_in_nI (by omega) (by omega)) dX0_leastArcOnward_79 ?_
              refine lv_icmp_ne (tgt := 102) hx hb dX0_leastArcOnward_80 (by decide) (fun c_80 => ?_) (fun c_80 => ?_)
              · refine lv_iinc (v := nI (i + 1)) (lv' := [(2, .int (nI (i + 1))), (3, .int (fp_en fr to i)), (0, .ref d0), (1, .int x)]) hx hb dX0_leastArcOnward_102 hl (k := 3) rfl (by first | exact nI_1 _ | exact nI_add _ _) (by decide) rfl (fun ls hl => ?_)
                refine lv_goto (tgt := 2) hx hb dX0_leastArcOnward_105 (by decide) ?_
                exact ih_a (i + 1) (by first | assumption | omega | rfl) (by rw [← hst, ← la_f hlt]; first | exact tg_1 c_22 | exact tg_2 c_33 | exact tg_3 (rch0 c_53) | exact tg_4 c_80 | exact tg_5 c_97) (by omega) _ (lv_sub hl [2, 3, 0] rfl)
              · refine lv_aload_n hx hb dX0_leastArcOnward_83 rfl (lv_at hl 1 rfl) ?_
                refine va_get (D := (dC, dI)) (ci := 0) (v := .ref d2) (C := RX0) (T := TX0) (N := 3) hx hb hts fa_lao_0 hown hK hP 0 rfl rfl 1 (by decide) (hts _ fa_lao_3) (fun _ h9 => h9) rfl dX0_leastArcOnward_84 ?_
                refine lv_iload_n hx hb dX0_leastArcOnward_87 rfl (lv_at hl 0 rfl) ?_
                refine va_iald (D := (dC, dI)) hx hb hK hP 2 0 rfl rfl (by first | assumption | exact vp_in_nI (by omega) (by omega)) dX0_leastArcOnward_88 ?_
                refine lv_iconst (v := 1) hx hb dX0_leastArcOnward_89 (by decide) ?_
                refine lv_iadd hx hb dX0_leastArcOnward_90 ?_
                refine lv_aload_n hx hb dX0_leastArcOnward_91 rfl (lv_at hl 1 rfl) ?_
                refine va_get (D := (dC, dI)) (ci := 0) (v := .ref d2) (C := RX0) (T := TX0) (N := 3) hx hb hts fa_lao_0 hown hK hP 0 rfl rfl 1 (by decide) (hts _ fa_lao_3) (fun _ h9 => h9) rfl dX0_leastArcOnward_92 ?_
                refine lv_iload_n hx hb dX0_leastArcOnward_95 rfl (lv_at hl 2 rfl) ?_
                refine va_iald (D := (dC, dI)) hx hb hK hP 2 0 rfl rfl (by first | assumption | exact vp_in_nI (by omega) (by omega)) dX0_leastArcOnward_96 ?_
                refine lv_icmp_ne (tgt := 102) hx hb dX0_leastArcOnward_97 (by decide) (fun c_97 => ?_) (fun c_97 => ?_)
                · refine lv_iinc (v := nI (i + 1)) (lv' := [(2, .int (nI (i + 1))), (3, .int (fp_en fr to i)), (0, .ref d0), (1, .int x)]) hx hb dX0_leastArcOnward_102 hl (k := 3) rfl (by first | exact nI_1 _ | exact nI_add _ _) (by decide) rfl (fun ls hl => ?_)
                  refine lv_goto (tgt := 2) hx hb dX0_leastArcOnward_105 (by decide) ?_
                  exact ih_a (i + 1) (by first | assumption | omega | rfl) (by rw [← hst, ← la_f hlt]; first | exact tg_1 c_22 | exact tg_2 c_33 | exact tg_3 (rch0 c_53) | exact tg_4 c_80 | exact tg_5 c_97) (by omega) _ (lv_sub hl [2, 3, 0] rfl)
                · refine lv_iload_n hx hb dX0_leastArcOnward_100 rfl (lv_at hl 3 rfl) ?_
                  exact W.iret (v := (nI i)) hx hb hr (fun t ht _ => ⟨(nI i), rfl, (by rw [← hst, la_t hlt (tg_t c_22 c_33 (rch1 c_53) c_80 c_97)]), ht⟩) (fun _ h => by cases h) dX0_leastArcOnward_101
            · refine lv_goto (tgt := 102) hx hb dX0_leastArcOnward_56 (by decide) ?_
              refine lv_iinc (v := nI (i + 1)) (lv' := [(2, .int (nI (i + 1))), (3, .int (fp_en fr to i)), (0, .ref d0), (1, .int x)]) hx hb dX0_leastArcOnward_102 hl (k := 3) rfl (by first | exact nI_1 _ | exact nI_add _ _) (by decide) rfl (fun ls hl => ?_)
              refine lv_goto (tgt := 2) hx hb dX0_leastArcOnward_105 (by decide) ?_
              exact ih_a (i + 1) (by first | assumption | omega | rfl) (by rw [← hst, ← la_f hlt]; first | exact tg_1 c_22 | exact tg_2 c_33 | exact tg_3 (rch0 c_53) | exact tg_4 c_80 | exact tg_5 c_97) (by omega) _ (lv_sub hl [2, 3, 0] rfl)
          · refine lv_goto (tgt := 102) hx hb dX0_leastArcOnward_36 (by decide) ?_
            refine lv_iinc (v := nI (i + 1)) (lv' := [(2, .int (nI (i + 1))), (0, .ref d0), (1, .int x)]) hx hb dX0_leastArcOnward_102 hl (k := 2) rfl (by first | exact nI_1 _ | exact nI_add _ _) (by decide) rfl (fun ls hl => ?_)
            refine lv_goto (tgt := 2) hx hb dX0_leastArcOnward_105 (by decide) ?_
            exact ih_a (i + 1) (by first | assumption | omega | rfl) (by rw [← hst, ← la_f hlt]; first | exact tg_1 c_22 | exact tg_2 c_33 | exact tg_3 (rch0 c_53) | exact tg_4 c_80 | exact tg_5 c_97) (by omega) _ (lv_sub hl [1, 2, 0] rfl)
  exact lo_a (2 * E - 0 + 1) 0 (by first | assumption | omega | rfl) rfl (by omega) _ (lv_sub hl [1, 2, 0] rfl)
