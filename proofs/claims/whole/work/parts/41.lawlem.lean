theorem he_src {N : Nat} {src snk sol he ms mk : Int32} (hN : N < 1000) (hends : (he = 0 ∧ src = -1 ∧ sol = 0) ∨ (he = 1 ∧ src = ms ∧ snk = mk ∧ fq_nf N src snk)) (h : he = 0) : src = -1 := by
  rcases hends with q | q
  · exact q.2.1
  · rw [h] at q; exact absurd q.1 (by decide)
theorem pot_eq {N : Nat} {x sol r1 r2 : Int32} {le hw : Nat → Int32} {ct : Nat → Int64} (h1 : ((sol = 0 ∨ ¬ vp_in x N) ∧ r1 = -1) ∨ (¬ sol = 0 ∧ vp_in x N ∧ r1 = le x.toNatClampNeg)) (h2 : r2 = (if hw x.toNatClampNeg = 0 then 2147483647 else (ct x.toNatClampNeg).toInt32)) (hso : ¬ sol = 0) (hx : vp_in x N)
    (hv : (le x.toNatClampNeg = 2147483647 ∧ hw x.toNatClampNeg = 0) ∨ (¬ le x.toNatClampNeg = 2147483647 ∧ hw x.toNatClampNeg = 1 ∧ (ct x.toNatClampNeg).toInt = (le x.toNatClampNeg).toInt ∧ -10000000 ≤ (le x.toNatClampNeg).toInt ∧ (le x.toNatClampNeg).toInt ≤ 10000000)) : r1 = r2 := by
  rcases h1 with ⟨q, -⟩ | ⟨-, -, q⟩
  · exact absurd q (fun z => z.elim hso (fun z => z hx))
  · rw [q, h2]
    rcases hv with ⟨a, b⟩ | ⟨a, b, c, -⟩
    · rw [if_pos b, a]
    · rw [if_neg (by rw [b]; decide)]
      exact (i64_32 c).symm
theorem cut_eq {N : Nat} {x sol r1 r2 : Int32} {le hw : Nat → Int32} {ct : Nat → Int64} (h1 : fq_b (¬ sol = 0 ∧ vp_in x N ∧ ¬ le x.toNatClampNeg = 2147483647) r1) (h2 : r2 = hw x.toNatClampNeg) (hso : ¬ sol = 0) (hx : vp_in x N)
    (hv : (le x.toNatClampNeg = 2147483647 ∧ hw x.toNatClampNeg = 0) ∨ (¬ le x.toNatClampNeg = 2147483647 ∧ hw x.toNatClampNeg = 1 ∧ (ct x.toNatClampNeg).toInt = (le x.toNatClampNeg).toInt ∧ -10000000 ≤ (le x.toNatClampNeg).toInt ∧ (le x.toNatClampNeg).toInt ≤ 10000000)) : r1 = r2 := by
  rw [h2]
  rcases hv with ⟨a, b⟩ | ⟨a, b, -⟩
  · rcases h1 with ⟨-, q⟩ | ⟨q, -⟩
    · exact absurd a q.2.2
    · rw [q, b]
  · rcases h1 with ⟨q, -⟩ | ⟨-, q⟩
    · rw [q, b]
    · exact absurd ⟨hso, hx, a⟩ q
theorem LI_run {N M E : Nat} {fr to cap uc fl le le' : Nat → Int32} {src snk sol' r : Int32} {ac : Int64} {R j : Nat} (hI : LI N M E fr to cap uc fl le src snk 0 0 ac 1 src snk)
    (hw : j ≤ R ∧ (∀ i, i < j → fp_fo fr to cap uc N E src snk (fp_F fr to cap uc N E src snk fl i)) ∧ ((fp_fo fr to cap uc N E src snk (fp_F fr to cap uc N E src snk fl j) ∧ j = R ∧ r = 1 ∧ sol' = 0) ∨ (¬ fp_fo fr to cap uc N E src snk (fp_F fr to cap uc N E src snk fl j) ∧ r = 0 ∧ sol' = 1 ∧ le' = (fp_fab fr to cap uc N E src (fp_F fr to cap uc N E src snk fl j)).1))) :
    LI N M E fr to cap uc (fp_F fr to cap uc N E src snk fl j) le' src snk 0 sol' ac 1 src snk := by
  obtain ⟨hnet, hEM, hM40, hz, hac, hends, hcir, hgood, hcs, hs01, hle⟩ := hI
  have hnf : fq_nf N src snk := by
    rcases hends with h | h
    · exact absurd h.1 (by decide)
    · exact h.2.2.2
  have hg := good_F hnet (hgood rfl) hnf.1 hnf.2.1 hnf.2.2 j hw.2.1
  refine ⟨hnet, hEM, hM40, hg.2.1, hac, Or.inr ⟨rfl, rfl, rfl, hnf⟩, hcir, fun _ => hg, fun q => absurd rfl q, ?_, ?_⟩
  · rcases hw.2.2 with h | h
    · exact Or.inl h.2.2.2
    · exact Or.inr h.2.2.1
  · intro q
    rcases hw.2.2 with h | h
    · exact absurd h.2.2.2 q
    · exact h.2.2.2
theorem fq_b_cg {P Q : Prop} {r : Int32} (h : P ↔ Q) (hq : fq_b Q r) : fq_b P r := by
  rcases hq with ⟨a, b⟩ | ⟨a, b⟩
  · exact Or.inl ⟨a, h.mpr b⟩
  · exact Or.inr ⟨a, fun z => b (h.mp z)⟩
theorem ix_law {i L : Nat} (hi : i < 10000) (hL : L ≤ 2562) (c : ¬ Int32.ofNat L - 5 < nI i) : i + 5 ≤ L := by
  have e : (Int32.ofNat L - 5).toInt = (L : Int) - 5 := pk_sub_toInt (a := L) (b := 5) (by omega) (by omega)
  rw [i32_lt, e, nI_toInt (by omega)] at c
  omega
theorem sw16 {x : Int32} {j : Nat} (hj : j < 16) (h : x = nI j) (hb : 11 ≤ j) : x.toInt < 0 ∨ 10 < x.toInt := by
  rw [h, nI_toInt (by omega)]; omega
theorem x_ok {x : Int32} (h : ¬ (x < 0 ∨ 10000 < x)) : ∃ R : Nat, R ≤ 10000 ∧ x = nI R := nI_of2 (M := 10000) (by decide) (fun q => h (Or.inl q)) (Int32.not_lt.mp (fun q => h (Or.inr q)))
theorem arr_ex {args : Array Value} {s : State} {ty : FieldType} (h : (Cond.arrayClass ty).before args s = true) : ∃ cA, ArrOfT s cA ty ∧ s.vm.findClass ("[" ++ ty.toString) = some cA := by
  obtain ⟨cA, kA, comp, h1, h2, h3⟩ := Cond.arrayClass_spec h
  exact ⟨cA, fun n z => ⟨fun k h => (by cases h), kA, h2, comp, h3⟩, h1⟩
theorem wi_ex2 (x : Int32) : ∃ N : Nat, 2 ≤ N ∧ N ≤ 12 ∧ (if (2 : Int32) < (if x < 12 then x else 12) then (if x < 12 then x else 12) else 2) = nI N ∧ (if x < 2 then (2 : Int32) else if 12 < x then 12 else x) = nI N := by
  have e2 : (2 : Int32).toInt = 2 := by decide
  have e12 : (12 : Int32).toInt = 12 := by decide
  by_cases c1 : x < 12
  · rw [if_pos c1]
    by_cases c2 : 2 < x
    · obtain ⟨j, hj, rfl⟩ := nI_of (x := x) (fun q => by rw [i32_lt, e2] at c2; rw [i32_lt, i32_0] at q; omega)
      rw [i32_lt, nI_toInt hj, e12] at c1
      rw [i32_lt, nI_toInt hj, e2] at c2
      refine ⟨j, by omega, by omega, ?_, ?_⟩
      · rw [if_pos (by rw [i32_lt, nI_toInt hj, e2]; omega)]
      · rw [if_neg (by rw [i32_lt, nI_toInt hj, e2]; omega), if_neg (by rw [i32_lt, nI_toInt hj, e12]; omega)]
    · refine ⟨2, by omega, by omega, by rw [if_neg c2]; rfl, ?_⟩
      by_cases c3 : x < 2
      · rw [if_pos c3]; rfl
      · have : x = 2 := i32_inj (by rw [i32_lt] at c2 c3; rw [e2] at *; omega)
        rw [this]; rfl
  · rw [if_neg c1]
    refine ⟨12, by omega, by omega, by rfl, ?_⟩
    rw [if_neg (fun q => c1 (by rw [i32_lt] at q ⊢; rw [e2] at q; rw [e12]; omega))]
    by_cases c3 : 12 < x
    · rw [if_pos c3]; rfl
    · have : x = 12 := i32_inj (by rw [i32_lt] at c1 c3; rw [e12] at *; omega)
      rw [this]; rfl
theorem wi_ex1 (x : Int32) : ∃ M : Nat, 1 ≤ M ∧ M ≤ 40 ∧ (if (1 : Int32) < (if x < 40 then x else 40) then (if x < 40 then x else 40) else 1) = nI M ∧ (if x < 1 then (1 : Int32) else if 40 < x then 40 else x) = nI M := by
  have e1 : (1 : Int32).toInt = 1 := by decide
  have e40 : (40 : Int32).toInt = 40 := by decide
  by_cases c1 : x < 40
  · rw [if_pos c1]
    by_cases c2 : 1 < x
    · obtain ⟨j, hj, rfl⟩ := nI_of (x := x) (fun q => by rw [i32_lt, e1] at c2; rw [i32_lt, i32_0] at q; omega)
      rw [i32_lt, nI_toInt hj, e40] at c1
      rw [i32_lt, nI_toInt hj, e1] at c2
      refine ⟨j, by omega, by omega, ?_, ?_⟩
      · rw [if_pos (by rw [i32_lt, nI_toInt hj, e1]; omega)]
      · rw [if_neg (by rw [i32_lt, nI_toInt hj, e1]; omega), if_neg (by rw [i32_lt, nI_toInt hj, e40]; omega)]
    · refine ⟨1, by omega, by omega, by rw [if_neg c2]; rfl, ?_⟩
      by_cases c3 : x < 1
      · rw [if_pos c3]; rfl
      · have : x = 1 := i32_inj (by rw [i32_lt] at c2 c3; rw [e1] at *; omega)
        rw [this]; rfl
  · rw [if_neg c1]
    refine ⟨40, by omega, by omega, by rfl, ?_⟩
    rw [if_neg (fun q => c1 (by rw [i32_lt] at q ⊢; rw [e1] at q; rw [e40]; omega))]
    by_cases c3 : 40 < x
    · rw [if_pos c3]; rfl
    · have : x = 40 := i32_inj (by rw [i32_lt] at c1 c3; rw [e40] at *; omega)
      rw [this]; rfl
theorem LI_0 {N M : Nat} (hN : 2 ≤ N) (hN2 : N ≤ 12) (hM : M ≤ 40) : LI N M 0 (fun _ => 0) (fun _ => 0) (fun _ => 0) (fun _ => 0) (fun _ => 0) (fun _ => 0) (-1) (-1) 0 0 0 0 0 0 := by
  have hnet : pq_net (fun _ => 0) (fun _ => 0) (fun _ => 0) (fun _ => 0) N 0 := ⟨hN, hN2, by omega, fun e he => absurd he (Nat.not_lt_zero _)⟩
  have hp : ∃ pi, pq_pot (fun _ => 0) (fun _ => 0) (fun _ => 0) (fun _ => 0) (fun _ => 0) 0 pi := ⟨fun _ => 0, fun a ha => absurd ha (by omega)⟩
  exact ⟨hnet, Nat.zero_le _, hM, fun _ _ => rfl, rfl, Or.inl ⟨rfl, rfl, rfl⟩, ⟨fun _ => hp, fun _ => rfl⟩, fun _ => good_0 hnet hp, fun q => absurd rfl q, Or.inl rfl, fun q => absurd rfl q⟩
set_option maxHeartbeats 4000000 in
set_option maxRecDepth 100000 in
/-- the law's own cell(script, k) -/
theorem k_cell (l : Launch) (b L : Nat) (xs : Nat → Int32) (k : Nat) (hk : k < 1000) (hL : L ≤ 2562) : Met l yL_cell wsL_cell ({ frames := 0, cells := 0, slots := 0, locals := 0 }) (va_Pc [.ref b, .int (nI k)] (fun U => b < U.heap.size ∧ va_X b L xs U U.heap)) (vp_Si (fun r => r = (if k < L then xs k else 0))) 0 0 (fun _ => False) := by
  refine Met.ofW (cc := cL_cell) (maxL := 2) (ret := (some .int)) (by decide) rfl ?_
  intro p e s m args below meth c s₁ B hml hv
  obtain ⟨rfl, hbl, hX⟩ := hv
  have hx := B.exec
  have hb := B.bytes
  have hr := B.returns
  have hlocks := B.notSynchronized
  have hS : va_S (fun _ => False) s.heap s.heap [] := va_S.rf
  have hl := lv_entry ([.ref b, .int (nI k)]) (n := 2) (Nat.le_of_ble_eq_true rfl)
  rw [lg_entry_eq]
  generalize (lg_sl ([.ref b, .int (nI k)]) ++ List.replicate (2 - (lg_sl ([.ref b, .int (nI k)])).length) Slot.unset).toArray = ls at hl ⊢
  have hl : lv_has ls 2 [(0, .ref b), (1, .int (nI k))] := hl
  refine lv_iload_n hx hb dL_cell_0 rfl (lv_at hl 1 rfl) ?_
  refine lv_aload_n hx hb dL_cell_1 rfl (lv_at hl 0 rfl) ?_
  refine va_slen hx hb hX hbl (fun h => h) hS dL_cell_2 ?_
  refine lv_icmp_ge (tgt := 12) hx hb dL_cell_3 (by decide) (fun c_3 => ?_) (fun c_3 => ?_)
  · refine lv_iconst (v := 0) hx hb dL_cell_12 (by decide) ?_
    have hge := ix_ge (i := k) (E := L) (by omega) (by omega) c_3
    exact W.iret (v := 0) hx hb hr (fun t ht _ => ⟨0, rfl, by rw [if_neg (by omega)], ht⟩) (fun _ h => by cases h) dL_cell_13
  · have hlt := ix_lt (i := k) (E := L) (by omega) (by omega) c_3
    refine lv_aload_n hx hb dL_cell_6 rfl (lv_at hl 0 rfl) ?_
    refine lv_iload_n hx hb dL_cell_7 rfl (lv_at hl 1 rfl) ?_
    refine va_sld hx hb hX hbl (fun h => h) hS (vp_in_nI hlt (by omega)) dL_cell_8 ?_
    refine tp_i (y := xs k) (by rw [nI_clamp (n := k) (by omega)]) ?_
    refine lv_goto (tgt := 13) hx hb dL_cell_9 (by decide) ?_
    exact W.iret (v := xs k) hx hb hr (fun t ht _ => ⟨xs k, rfl, by rw [if_pos hlt], ht⟩) (fun _ h => by cases h) dL_cell_13
