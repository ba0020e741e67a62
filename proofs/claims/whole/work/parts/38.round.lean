theorem mn_le (f : Nat → Int32) (ar : Nat → Nat) : ∀ n j, j ≤ n → fp_mn f ar n ≤ f (ar j)
  | 0, j, hj => by
    obtain rfl : j = 0 := by omega
    exact Int32.le_refl _
  | n + 1, j, hj => by
    rw [fp_mn]
    rcases Nat.lt_or_ge n j with q | q
    · rw [show j = n + 1 by omega]
      split
      · exact Int32.le_refl _
      · rename_i c; exact Int32.not_lt.mp c
    · have ih := mn_le f ar n j q
      split
      · rename_i c; rw [i32_lt] at c; rw [i32_le] at ih ⊢; omega
      · exact ih
theorem mn_at (f : Nat → Int32) (ar : Nat → Nat) : ∀ n, ∃ j, j ≤ n ∧ fp_mn f ar n = f (ar j)
  | 0 => ⟨0, Nat.le_refl _, rfl⟩
  | n + 1 => by
    rw [fp_mn]
    split
    · exact ⟨n + 1, Nat.le_refl _, rfl⟩
    · obtain ⟨j, h1, h2⟩ := mn_at f ar n
      exact ⟨j, by omega, h2⟩
theorem sd_no {fl : Nat → Int32} {ar : Nat → Nat} {x : Int32} {e : Nat} : ∀ i, (∀ j, j < i → ¬ ar j / 2 = e) → fp_sd fl ar x i e = fl e
  | 0, _ => rfl
  | i + 1, h => by
    rw [fp_sd, fp_send, upd_n _ _ (fun q => h i (by omega) q.symm)]
    exact sd_no i (fun j hj => h j (by omega))
theorem sd_at {fl : Nat → Int32} {ar : Nat → Nat} {x : Int32} {j : Nat} : ∀ i, j < i → (∀ j', j' < i → ¬ j' = j → ¬ ar j' / 2 = ar j / 2) → fp_sd fl ar x i (ar j / 2) = fl (ar j / 2) + (if ar j % 2 = 0 then x else -x)
  | 0, h, _ => absurd h (Nat.not_lt_zero _)
  | i + 1, h, hd => by
    rw [fp_sd, fp_send]
    by_cases q : j = i
    · rw [q, upd_s, sd_no i (fun j' hj' z => hd j' (by omega) (by omega) (by rw [q]; exact z))]
    · rw [upd_n _ _ (fun z => hd i (by omega) (fun y => q y.symm) z.symm)]
      exact sd_at i (by omega) (fun j' hj' => hd j' (by omega))
theorem ex_max (f : Nat → Int) : ∀ n : Nat, ∃ m : Int, ∀ v, v < n → f v ≤ m
  | 0 => ⟨0, fun v hv => absurd hv (Nat.not_lt_zero _)⟩
  | n + 1 => by
    obtain ⟨m, hm⟩ := ex_max f n
    by_cases q : f n ≤ m
    · exact ⟨m, fun v hv => by
        rcases Nat.lt_or_ge v n with h | h
        · exact hm v h
        · rw [show v = n by omega]; exact q⟩
    · exact ⟨f n, fun v hv => by
        rcases Nat.lt_or_ge v n with h | h
        · have := hm v h; omega
        · rw [show v = n by omega]; exact Int.le_refl _⟩
/-- flows as a round finds and leaves them -/
def pq_good (fr to cap uc fl : Nat → Int32) (E : Nat) : Prop := (∀ e, e < E → 0 ≤ (fl e).toInt ∧ (fl e).toInt ≤ (cap e).toInt) ∧ (∀ j, E ≤ j → fl j = 0) ∧ ∃ pi, pq_pot fr to cap uc fl E pi
section
variable {fr to cap uc fl : Nat → Int32} {N E : Nat} {src snk : Int32}
theorem lf_int (h : pq_net fr to cap uc N E) (hb : ∀ e, e < E → 0 ≤ (fl e).toInt ∧ (fl e).toInt ≤ (cap e).toInt) {a : Nat} (ha : a < 2 * E) : (fp_lf cap fl a).toInt = (if a % 2 = 0 then (cap (a / 2)).toInt - (fl (a / 2)).toInt else (fl (a / 2)).toInt) := by
  obtain ⟨-, -, -, c1, c2, -⟩ := h.2.2.2 (a / 2) (by omega)
  obtain ⟨b1, b2⟩ := hb (a / 2) (by omega)
  unfold fp_lf
  by_cases q : a % 2 = 0
  · rw [if_pos q, if_pos q]
    exact i32_sub (by omega) (by omega)
  · rw [if_neg q, if_neg q]
theorem rev_b {a b : Nat} (h : a / 2 = b / 2) (hn : ¬ a = b) : fp_bg fr to b = fp_en fr to a ∧ fp_en fr to b = fp_bg fr to a := by
  unfold fp_bg fp_en
  by_cases q : a % 2 = 0
  · have q2 : ¬ b % 2 = 0 := by omega
    simp only [if_pos q, if_neg q2, h, and_self]
  · have q2 : b % 2 = 0 := by omega
    simp only [if_neg q, if_pos q2, h, and_self]
theorem rev_p (h : pq_net fr to cap uc N E) {a b : Nat} (ha : a < 2 * E) (hh : a / 2 = b / 2) (hn : ¬ a = b) : (fp_pr uc b).toInt = - (fp_pr uc a).toInt := by
  obtain ⟨-, -, -, -, -, c1, c2⟩ := h.2.2.2 (a / 2) (by omega)
  unfold fp_pr
  rcases (show (a % 2 = 0 ∧ b % 2 = 1) ∨ (a % 2 = 1 ∧ b % 2 = 0) by omega) with ⟨q1, q2⟩ | ⟨q1, q2⟩
  · rw [if_neg (by omega), if_pos q1, ← hh, i32_neg (by omega)]
  · rw [if_pos q2, if_neg (by omega), ← hh, i32_neg (by omega)]; omega
/-- P4 -/
theorem good_nf (h : pq_net fr to cap uc N E) (hg : pq_good fr to cap uc fl E) (hsrc : vp_in src N) (hsnk : vp_in snk N) (hss : ¬ src = snk) (hfo : fp_fo fr to cap uc N E src snk fl) : pq_good fr to cap uc (fp_nf fr to cap uc N E src snk fl) E := by
  obtain ⟨hb, hz, pi, hp⟩ := hg
  have W := way_st h hp hsrc hsnk hfo
  have r1 := lab_R (snk := snk) h hp
  have hF := Fs_fx (snk := snk) h hp
  have h12 := h.2.1
  have hE := h.2.2.1
  obtain ⟨hK0, -, -, -⟩ := way_of h hp hsrc hsnk hss hfo
  unfold fp_nf
  generalize hKe : fp_K fr to cap uc N E src snk fl = K at W hK0 ⊢
  generalize hare : fp_ar (fp_nxf fr to cap uc N E snk fl) fr to src = ar at W ⊢
  generalize hnde : fp_nd (fp_nxf fr to cap uc N E snk fl) fr to src = nd at W
  have hnd : ∀ j, nd (j + 1) = fp_en fr to (ar j) := by
    intro j; rw [← hnde, ← hare]; rfl
  have hT : ∀ j, j < K → ar j < 2 * E ∧ fp_bg fr to (ar j) = nd j ∧ 0 < fp_lf cap fl (ar j) ∧ ((fp_lab fr to cap uc N E snk fl).1 (nd (j + 1)).toNatClampNeg).toInt + (fp_pr uc (ar j)).toInt = ((fp_lab fr to cap uc N E snk fl).1 (nd j).toNatClampNeg).toInt ∧ ¬ (fp_lab fr to cap uc N E snk fl).1 (nd j).toNatClampNeg = 2147483647 ∧ ¬ (fp_lab fr to cap uc N E snk fl).1 (nd (j + 1)).toNatClampNeg = 2147483647 := by
    intro j hj
    obtain ⟨w1, w2, w3, w4⟩ := W j (by omega)
    obtain ⟨-, k2, -, k4⟩ := w4 hj
    obtain ⟨t1, t2, t3, t4, -⟩ := tg_inv k4
    refine ⟨k2, t1, t2, ?_, w2, by rw [hnd]; exact t3⟩
    have := congrArg Int32.toInt t4
    obtain ⟨p1, p2⟩ := h.p k2
    rcases r1 _ (vp_lt (h.e k2)) with ⟨-, b2, -⟩ | ⟨b1, b2, b3, b4, b5⟩
    · exact absurd b2 t3
    · rw [i32_add (by omega) (by omega)] at this
      rw [hnd]; exact this
  have hfe : ∀ i j, i ≤ K → j ≤ K → nd i = nd j → i = j := by
    intro i j hi hj e
    have w1 := (W i hi).2.2.1
    have w2 := (W j hj).2.2.1
    rw [e] at w1
    omega
  have hdis : ∀ i j, i < K → j < K → ¬ i = j → ¬ ar i / 2 = ar j / 2 := by
    intro i j hi hj hij q
    have ti := (hT i hi).2.1
    have tj := (hT j hj).2.1
    by_cases e : ar i = ar j
    · exact hij (hfe i j (by omega) (by omega) (by rw [← ti, ← tj, e]))
    · obtain ⟨v1, v2⟩ := rev_b (fr := fr) (to := to) q e
      have a1 := hfe j (i + 1) (by omega) (by omega) (by rw [← tj, hnd i, v1])
      have a2 := hfe (j + 1) i (by omega) (by omega) (by rw [hnd j, v2, ti])
      omega
  have ham : ∀ j, j < K → (fp_am fr to cap uc N E src snk fl).toInt ≤ (fp_lf cap fl (ar j)).toInt := by
    intro j hj
    unfold fp_am
    rw [hKe, hare]
    exact i32_le.mp (mn_le _ ar (K - 1) j (by omega))
  have ham0 : 0 < (fp_am fr to cap uc N E src snk fl).toInt := by
    unfold fp_am
    rw [hKe, hare]
    obtain ⟨j, j1, j2⟩ := mn_at (fp_lf cap fl) ar (K - 1)
    rw [j2]
    have := (hT j (by omega)).2.2.1
    rw [i32_lt, i32_0] at this
    exact this
  generalize fp_am fr to cap uc N E src snk fl = am at ham ham0
  have hfl : ∀ j, j < K → fp_sd fl ar am K (ar j / 2) = fl (ar j / 2) + (if ar j % 2 = 0 then am else -am) := fun j hj => sd_at K hj (fun j' hj' hne => hdis j' j hj' hj hne)
  refine ⟨?_, ?_, ?_⟩
  · intro e he
    by_cases hex : ∃ j, j < K ∧ ar j / 2 = e
    · obtain ⟨j, hj, rfl⟩ := hex
      rw [hfl j hj]
      have a1 := ham j hj
      rw [lf_int h hb (hT j hj).1] at a1
      obtain ⟨b1, b2⟩ := hb (ar j / 2) he
      obtain ⟨-, -, -, c1, c2, -⟩ := h.2.2.2 (ar j / 2) he
      by_cases q : ar j % 2 = 0
      · rw [if_pos q] at a1 ⊢
        rw [i32_add (by omega) (by omega)]
        omega
      · rw [if_neg q] at a1 ⊢
        have en : (-am).toInt = -am.toInt := i32_neg (by omega)
        rw [i32_add (by rw [en]; omega) (by rw [en]; omega), en]
        omega
    · rw [sd_no K (fun j hj q => hex ⟨j, hj, q⟩)]
      exact hb e he
  · intro e he
    rw [sd_no K (fun j hj q => by have := (hT j hj).1; omega)]
    exact hz e he
  · obtain ⟨m, hm⟩ := ex_max (fun v => ((fp_lab fr to cap uc N E snk fl).1 v).toInt - pi v) N
    have old : ∀ a, a < 2 * E → 0 < fp_lf cap fl a → (fun v => if (fp_lab fr to cap uc N E snk fl).1 v = 2147483647 then pi v + m else ((fp_lab fr to cap uc N E snk fl).1 v).toInt) (pq_b fr to a) ≤ (fun v => if (fp_lab fr to cap uc N E snk fl).1 v = 2147483647 then pi v + m else ((fp_lab fr to cap uc N E snk fl).1 v).toInt) (pq_e fr to a) + (fp_pr uc a).toInt := by
      intro a ha ho
      dsimp only
      have hpa := hp a ha ho
      have hmb := hm _ (vp_lt (h.b ha))
      obtain ⟨p1, p2⟩ := h.p ha
      by_cases q : (fp_lab fr to cap uc N E snk fl).1 (pq_e fr to a) = 2147483647
      · rw [if_pos q]
        by_cases q2 : (fp_lab fr to cap uc N E snk fl).1 (pq_b fr to a) = 2147483647
        · rw [if_pos q2]; omega
        · rw [if_neg q2]; unfold pq_b at hpa ⊢; omega
      · rw [if_neg q]
        rcases r1 (pq_e fr to a) (vp_lt (h.e ha)) with ⟨-, b2, -⟩ | ⟨b1, b2, b3, b4, b5⟩
        · exact absurd b2 q
        · have h9 := hF a ha (decide_eq_true ho) _ b1
          rcases r1 (pq_b fr to a) (vp_lt (h.b ha)) with ⟨c1, -⟩ | ⟨c1, c2, c3, c4, c5⟩
          · rw [c1] at h9
            obtain ⟨z, hz', -⟩ := h9 _ rfl
            cases hz'
          · rw [c1, bf_ol_some] at h9
            unfold pq_w at h9
            rw [if_neg (fun z => by rw [z, i32_M] at c3; omega)]
            omega
    refine ⟨(fun v => if (fp_lab fr to cap uc N E snk fl).1 v = 2147483647 then pi v + m else ((fp_lab fr to cap uc N E snk fl).1 v).toInt), fun a ha ho => ?_⟩
    by_cases hex : ∃ j, j < K ∧ ar j / 2 = a / 2
    · obtain ⟨j, hj, hja⟩ := hex
      obtain ⟨t1, t2, t3, t4, t5, t6⟩ := hT j hj
      by_cases q : ar j = a
      · rw [← q]; exact old (ar j) t1 t3
      · obtain ⟨v1, v2⟩ := rev_b (fr := fr) (to := to) hja q
        have v3 := rev_p h t1 hja q
        unfold pq_b pq_e
        rw [v1, v2, t2, ← hnd j, v3]
        dsimp only
        rw [if_neg t5, if_neg t6]
        omega
    · refine old a ha ?_
      unfold fp_lf at ho ⊢
      rw [sd_no K (fun j hj z => hex ⟨j, hj, z⟩)] at ho
      exact ho
/-- and so on, round by round -/
theorem good_F (h : pq_net fr to cap uc N E) (hg : pq_good fr to cap uc fl E) (hsrc : vp_in src N) (hsnk : vp_in snk N) (hss : ¬ src = snk) : ∀ j, (∀ i, i < j → fp_fo fr to cap uc N E src snk (fp_F fr to cap uc N E src snk fl i)) → pq_good fr to cap uc (fp_F fr to cap uc N E src snk fl j) E
  | 0, _ => hg
  | j + 1, hf => good_nf h (good_F h hg hsrc hsnk hss j (fun i hi => hf i (by omega))) hsrc hsnk hss (hf j (by omega))
end
