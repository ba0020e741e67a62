section
variable {fr to cap uc fl : Nat → Int32} {N E : Nat} {src snk : Int32} {pi : Nat → Int}
/-- a labelled node that isn't the sink has an arc on -/
theorem tg_ex (h : pq_net fr to cap uc N E) (hp : pq_pot fr to cap uc fl E pi) (hsnk : vp_in snk N) {v : Int32} (hv : vp_in v N) (hne : ¬ v = snk) (hM : ¬ (fp_lab fr to cap uc N E snk fl).1 v.toNatClampNeg = 2147483647) :
    ∃ a, a < 2 * E ∧ fp_tg fr to cap uc fl (fp_lab fr to cap uc N E snk fl).1 (fp_lab fr to cap uc N E snk fl).2.1 v a = true := by
  have r1 := lab_R (snk := snk) h hp
  have hF := Fs_fx (snk := snk) h hp
  have h12 := h.2.1
  obtain ⟨-, -, hi⟩ := Fs_inv (snk := snk) h hp
  rcases r1 v.toNatClampNeg (vp_lt hv) with ⟨-, a2, -⟩ | ⟨a1, a2, a3, a4, a5⟩
  · exact absurd a2 hM
  · rcases hi _ _ a1 with q | ⟨a, ha, ho, hfa, y, hy, hle⟩
    · exact absurd (vp_eq h12 hv hsnk q) hne
    · have h9 := hF a ha ho y hy
      rw [hfa, a1, bf_ol_some] at h9
      obtain ⟨p1, p2⟩ := h.p ha
      rcases r1 (pq_e fr to a) (vp_lt (h.e ha)) with ⟨b1, -⟩ | ⟨b1, b2, b3, b4, b5⟩
      · rw [b1] at hy; cases hy
      · rw [b1] at hy
        cases hy
        unfold pq_w at h9 hle
        refine ⟨a, ha, tg_t (vp_eq h12 (h.b ha) hv hfa) (of_decide_eq_true ho) ?_ ?_ ?_⟩
        · intro q
          have q' : ((fp_lab fr to cap uc N E snk fl).1 (pq_e fr to a)).toInt = 2147483647 := by rw [← i32_M, ← q]
          omega
        · apply i32_inj
          have e : ((fp_lab fr to cap uc N E snk fl).1 (pq_e fr to a) + fp_pr uc a).toInt = ((fp_lab fr to cap uc N E snk fl).1 (pq_e fr to a)).toInt + (fp_pr uc a).toInt := i32_add (by omega) (by omega)
          show ((fp_lab fr to cap uc N E snk fl).1 (pq_e fr to a) + fp_pr uc a).toInt = _
          rw [e]; omega
        · apply i32_inj
          have e : ((fp_lab fr to cap uc N E snk fl).2.1 (pq_e fr to a) + 1).toInt = ((fp_lab fr to cap uc N E snk fl).2.1 (pq_e fr to a)).toInt + 1 := by rw [i32_add (by rw [i32_1]; omega) (by rw [i32_1]; omega), i32_1]
          show ((fp_lab fr to cap uc N E snk fl).2.1 (pq_e fr to a) + 1).toInt = _
          rw [e]; omega
/-- a step of the way -/
theorem nx_ex (h : pq_net fr to cap uc N E) (hp : pq_pot fr to cap uc fl E pi) (hsnk : vp_in snk N) {v : Int32} (hv : vp_in v N) (hne : ¬ v = snk) (hM : ¬ (fp_lab fr to cap uc N E snk fl).1 v.toNatClampNeg = 2147483647) :
    ∃ a, a < 2 * E ∧ fp_nxf fr to cap uc N E snk fl v = nI a ∧ fp_tg fr to cap uc fl (fp_lab fr to cap uc N E snk fl).1 (fp_lab fr to cap uc N E snk fl).2.1 v a = true := by
  obtain ⟨a, ha, ht⟩ := tg_ex h hp hsnk hv hne hM
  obtain ⟨j, g1, g2, g3, g4⟩ := la_ex (2 * E) 0 ⟨a, Nat.zero_le _, by omega, ht⟩
  exact ⟨j, by omega, g4, g3⟩
/-- all about the way, arc by arc -/
theorem way_st (h : pq_net fr to cap uc N E) (hp : pq_pot fr to cap uc fl E pi) (hsrc : vp_in src N) (hsnk : vp_in snk N) (hfo : fp_fo fr to cap uc N E src snk fl) :
    ∀ j, j ≤ fp_K fr to cap uc N E src snk fl → vp_in (fp_nd (fp_nxf fr to cap uc N E snk fl) fr to src j) N ∧ ¬ (fp_lab fr to cap uc N E snk fl).1 (fp_nd (fp_nxf fr to cap uc N E snk fl) fr to src j).toNatClampNeg = 2147483647 ∧ ((fp_lab fr to cap uc N E snk fl).2.1 (fp_nd (fp_nxf fr to cap uc N E snk fl) fr to src j).toNatClampNeg).toInt = (fp_K fr to cap uc N E src snk fl : Int) - j ∧
      (j < fp_K fr to cap uc N E src snk fl → ¬ fp_nd (fp_nxf fr to cap uc N E snk fl) fr to src j = snk ∧ fp_ar (fp_nxf fr to cap uc N E snk fl) fr to src j < 2 * E ∧ fp_nxf fr to cap uc N E snk fl (fp_nd (fp_nxf fr to cap uc N E snk fl) fr to src j) = nI (fp_ar (fp_nxf fr to cap uc N E snk fl) fr to src j) ∧ fp_tg fr to cap uc fl (fp_lab fr to cap uc N E snk fl).1 (fp_lab fr to cap uc N E snk fl).2.1 (fp_nd (fp_nxf fr to cap uc N E snk fl) fr to src j) (fp_ar (fp_nxf fr to cap uc N E snk fl) fr to src j) = true) := by
  have r1 := lab_R (snk := snk) h hp
  have h12 := h.2.1
  have hE := h.2.2.1
  have hs0 : ((fp_lab fr to cap uc N E snk fl).2.1 snk.toNatClampNeg).toInt = 0 := by
    have hz := (Fs_inv (snk := snk) h hp).1
    rcases r1 _ (vp_lt hsnk) with ⟨b1, -⟩ | ⟨b1, b2, b3, b4, b5⟩
    · rw [b1] at hz; cases hz
    · rw [b1] at hz
      have := Option.some.inj hz
      omega
  have step : ∀ j, vp_in (fp_nd (fp_nxf fr to cap uc N E snk fl) fr to src j) N ∧ ¬ (fp_lab fr to cap uc N E snk fl).1 (fp_nd (fp_nxf fr to cap uc N E snk fl) fr to src j).toNatClampNeg = 2147483647 ∧ ((fp_lab fr to cap uc N E snk fl).2.1 (fp_nd (fp_nxf fr to cap uc N E snk fl) fr to src j).toNatClampNeg).toInt = (fp_K fr to cap uc N E src snk fl : Int) - j → (j < fp_K fr to cap uc N E src snk fl → ¬ fp_nd (fp_nxf fr to cap uc N E snk fl) fr to src j = snk ∧ fp_ar (fp_nxf fr to cap uc N E snk fl) fr to src j < 2 * E ∧ fp_nxf fr to cap uc N E snk fl (fp_nd (fp_nxf fr to cap uc N E snk fl) fr to src j) = nI (fp_ar (fp_nxf fr to cap uc N E snk fl) fr to src j) ∧ fp_tg fr to cap uc fl (fp_lab fr to cap uc N E snk fl).1 (fp_lab fr to cap uc N E snk fl).2.1 (fp_nd (fp_nxf fr to cap uc N E snk fl) fr to src j) (fp_ar (fp_nxf fr to cap uc N E snk fl) fr to src j) = true) := by
    rintro j ⟨h1, h2, h3⟩ hj
    have hne : ¬ fp_nd (fp_nxf fr to cap uc N E snk fl) fr to src j = snk := by
      intro q; rw [q, hs0] at h3; omega
    obtain ⟨a, ha, e1, e2⟩ := nx_ex h hp hsnk h1 hne h2
    have ear : fp_ar (fp_nxf fr to cap uc N E snk fl) fr to src j = a := by
      unfold fp_ar; rw [e1, nI_clamp (by omega)]
    rw [ear]
    exact ⟨hne, ha, e1, e2⟩
  intro j
  induction j with
  | zero =>
    intro _
    have b : vp_in (fp_nd (fp_nxf fr to cap uc N E snk fl) fr to src 0) N ∧ ¬ (fp_lab fr to cap uc N E snk fl).1 (fp_nd (fp_nxf fr to cap uc N E snk fl) fr to src 0).toNatClampNeg = 2147483647 ∧ ((fp_lab fr to cap uc N E snk fl).2.1 (fp_nd (fp_nxf fr to cap uc N E snk fl) fr to src 0).toNatClampNeg).toInt = (fp_K fr to cap uc N E src snk fl : Int) - (0 : Nat) := by
      refine ⟨hsrc, hfo, ?_⟩
      show ((fp_lab fr to cap uc N E snk fl).2.1 src.toNatClampNeg).toInt = _
      rcases r1 _ (vp_lt hsrc) with ⟨-, b2, -⟩ | ⟨b1, b2, b3, b4, b5⟩
      · exact absurd b2 hfo
      · unfold fp_K
        obtain ⟨i, hi, e⟩ := nI_of (x := (fp_lab fr to cap uc N E snk fl).2.1 src.toNatClampNeg) (by rw [i32_lt, i32_0]; omega)
        rw [e, nI_clamp hi, nI_toInt hi]; omega
    exact ⟨b.1, b.2.1, b.2.2, step 0 b⟩
  | succ j ih =>
    intro hj
    obtain ⟨h1, h2, h3, h4⟩ := ih (by omega)
    obtain ⟨k1, k2, k3, k4⟩ := h4 (by omega)
    obtain ⟨t1, t2, t3, t4, t5⟩ := tg_inv k4
    have b : vp_in (fp_nd (fp_nxf fr to cap uc N E snk fl) fr to src (j + 1)) N ∧ ¬ (fp_lab fr to cap uc N E snk fl).1 (fp_nd (fp_nxf fr to cap uc N E snk fl) fr to src (j + 1)).toNatClampNeg = 2147483647 ∧ ((fp_lab fr to cap uc N E snk fl).2.1 (fp_nd (fp_nxf fr to cap uc N E snk fl) fr to src (j + 1)).toNatClampNeg).toInt = (fp_K fr to cap uc N E src snk fl : Int) - (j + 1 : Nat) := by
      refine ⟨h.e k2, t3, ?_⟩
      rcases r1 _ (vp_lt (h.e k2)) with ⟨-, b2, -⟩ | ⟨b1, b2, b3, b4, b5⟩
      · exact absurd b2 t3
      · have := congrArg Int32.toInt t5
        rw [i32_add (by rw [i32_1]; omega) (by rw [i32_1]; omega), i32_1, h3] at this
        show ((fp_lab fr to cap uc N E snk fl).2.1 (fp_en fr to (fp_ar (fp_nxf fr to cap uc N E snk fl) fr to src j)).toNatClampNeg).toInt = _
        omega
    exact ⟨b.1, b.2.1, b.2.2, step (j + 1) b⟩
/-- P3 -/
theorem way_of (h : pq_net fr to cap uc N E) (hp : pq_pot fr to cap uc fl E pi) (hsrc : vp_in src N) (hsnk : vp_in snk N) (hss : ¬ src = snk) (hfo : fp_fo fr to cap uc N E src snk fl) :
    fp_way (fp_nxf fr to cap uc N E snk fl) fr to N E src snk (fp_K fr to cap uc N E src snk fl) := by
  have W := way_st h hp hsrc hsnk hfo
  have r1 := lab_R (snk := snk) h hp
  have h12 := h.2.1
  have hK0 : 0 < fp_K fr to cap uc N E src snk fl := by
    obtain ⟨a, ha, -, ht⟩ := nx_ex h hp hsnk hsrc hss hfo
    obtain ⟨-, -, t3, -, t5⟩ := tg_inv ht
    have w0 := (W 0 (Nat.zero_le _)).2.2.1
    rcases r1 _ (vp_lt (h.e ha)) with ⟨-, b2, -⟩ | ⟨b1, b2, b3, b4, b5⟩
    · exact absurd b2 t3
    · have := congrArg Int32.toInt t5
      rw [i32_add (by rw [i32_1]; omega) (by rw [i32_1]; omega), i32_1] at this
      have e : (fp_lab fr to cap uc N E snk fl).2.1 (fp_nd (fp_nxf fr to cap uc N E snk fl) fr to src 0).toNatClampNeg = (fp_lab fr to cap uc N E snk fl).2.1 src.toNatClampNeg := rfl
      rw [e] at w0
      omega
  have hKN : fp_K fr to cap uc N E src snk fl < N := by
    apply Decidable.byContradiction
    intro q
    obtain ⟨i, j, g1, g2, g3⟩ := bf_php N (fun i => (fp_nd (fp_nxf fr to cap uc N E snk fl) fr to src i).toNatClampNeg) (fun i hi => vp_lt (W i (by omega)).1)
    have wi := (W i (by omega)).2.2.1
    have wj := (W j (by omega)).2.2.1
    rw [g3] at wi
    omega
  have hend : fp_nd (fp_nxf fr to cap uc N E snk fl) fr to src (fp_K fr to cap uc N E src snk fl) = snk := by
    apply Decidable.byContradiction
    intro q
    obtain ⟨w1, w2, w3, -⟩ := W _ (Nat.le_refl _)
    obtain ⟨a, ha, -, ht⟩ := nx_ex h hp hsnk w1 q w2
    obtain ⟨-, -, t3, -, t5⟩ := tg_inv ht
    rcases r1 _ (vp_lt (h.e ha)) with ⟨-, b2, -⟩ | ⟨b1, b2, b3, b4, b5⟩
    · exact absurd b2 t3
    · have := congrArg Int32.toInt t5
      rw [i32_add (by rw [i32_1]; omega) (by rw [i32_1]; omega), i32_1, w3] at this
      omega
  refine ⟨hK0, hKN, hend, fun j hj => ?_⟩
  obtain ⟨w1, w2, w3, w4⟩ := W j (by omega)
  obtain ⟨k1, k2, k3, k4⟩ := w4 hj
  exact ⟨k1, w1, k3, k2⟩
end
