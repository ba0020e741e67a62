theorem la_congr {P Q : Nat → Bool} : ∀ n a, (∀ j, a ≤ j → j < a + n → P j = Q j) → fp_la P n a = fp_la Q n a
  | 0, _, _ => rfl
  | n + 1, a, h => by
    rw [fp_la, fp_la, h a (Nat.le_refl _) (by omega), la_congr n (a + 1) (fun j h1 h2 => h j (by omega) (by omega))]
theorem la_ex {P : Nat → Bool} : ∀ n a, (∃ j, a ≤ j ∧ j < a + n ∧ P j = true) → ∃ j, a ≤ j ∧ j < a + n ∧ P j = true ∧ fp_la P n a = nI j
  | 0, a, ⟨j, h1, h2, _⟩ => by omega
  | n + 1, a, ⟨j, h1, h2, h3⟩ => by
    rw [fp_la]
    by_cases c : P a = true
    · rw [if_pos c]; exact ⟨a, Nat.le_refl _, by omega, c, rfl⟩
    · rw [if_neg c]
      have hj : a + 1 ≤ j := by
        rcases Nat.lt_or_ge a j with q | q
        · exact q
        · rw [show j = a by omega] at h3; exact absurd h3 c
      obtain ⟨i, g1, g2, g3, g4⟩ := la_ex n (a + 1) ⟨j, hj, by omega, h3⟩
      exact ⟨i, by omega, by omega, g3, g4⟩
theorem tg_inv {fr to cap uc fl le fe : Nat → Int32} {x : Int32} {a : Nat} (h : fp_tg fr to cap uc fl le fe x a = true) : fp_bg fr to a = x ∧ 0 < fp_lf cap fl a ∧ ¬ le (fp_en fr to a).toNatClampNeg = 2147483647 ∧ le (fp_en fr to a).toNatClampNeg + fp_pr uc a = le x.toNatClampNeg ∧ fe (fp_en fr to a).toNatClampNeg + 1 = fe x.toNatClampNeg := by
  simpa [fp_tg] using h
section
variable {fr to cap uc fl : Nat → Int32} {N E : Nat} {snk : Int32} {pi : Nat → Int}
/-- the labels to the sink, final -/
def fp_Fs (fr to cap uc fl : Nat → Int32) (N E : Nat) (snk : Int32) : Nat → Option Int := bf_it (pq_o cap fl) (pq_e fr to) (pq_b fr to) (pq_w uc) (2 * E) (bf_L0 snk.toNatClampNeg) (N - 1)
theorem Fs_hpi (hp : pq_pot fr to cap uc fl E pi) : ∀ a, a < 2 * E → pq_o cap fl a = true → (fun v => pi v * 1000000) (pq_b fr to a) ≤ (fun v => pi v * 1000000) (pq_e fr to a) + pq_w uc a := pq_hpi_t hp
theorem Fs_hN (h : pq_net fr to cap uc N E) : ∀ a, a < 2 * E → pq_o cap fl a = true → pq_e fr to a < N - 1 + 1 ∧ pq_b fr to a < N - 1 + 1 := pq_hN (bw := true) h
theorem Fs_fx (h : pq_net fr to cap uc N E) (hp : pq_pot fr to cap uc fl E pi) : bf_fx (pq_o cap fl) (pq_e fr to) (pq_b fr to) (pq_w uc) (2 * E) (fp_Fs fr to cap uc fl N E snk) := bf_end (pi := fun v => pi v * 1000000) (Fs_hpi hp) (Fs_hN h)
theorem Fs_it (h : pq_net fr to cap uc N E) (hp : pq_pot fr to cap uc fl E pi) : bf_it (pq_o cap fl) (pq_e fr to) (pq_b fr to) (pq_w uc) (2 * E) (bf_L0 snk.toNatClampNeg) N = fp_Fs fr to cap uc fl N E snk := by
  have := h.1
  have e := bf_it_st (Fs_fx (snk := snk) h hp) 1
  rw [show N - 1 + 1 = N by omega] at e
  exact e
theorem Fs_inv (h : pq_net fr to cap uc N E) (hp : pq_pot fr to cap uc fl E pi) : bf_inv (pq_o cap fl) (pq_e fr to) (pq_b fr to) (pq_w uc) (2 * E) (fun v => pi v * 1000000) snk.toNatClampNeg (fp_Fs fr to cap uc fl N E snk) :=
  (bf_gi (op' := pq_o cap fl) (fun a _ => Or.inl rfl) (Fs_hpi hp) (fun a ha q => h.ne ha q.symm) (bf_L0_inv _ _) (N - 1)).1
/-- class's labels are these -/
theorem lab_R (h : pq_net fr to cap uc N E) (hp : pq_pot fr to cap uc fl E pi) : sc_R N (80 * N) (fp_lab fr to cap uc N E snk fl).1 (fp_lab fr to cap uc N E snk fl).2.1 (fp_Fs fr to cap uc fl N E snk) := by
  have hR0 : sc_R N 0 (upd (fun _ => 2147483647) snk.toNatClampNeg 0) (fun _ => 0) (bf_L0 snk.toNatClampNeg) := by
    intro v _
    unfold bf_L0 upd
    by_cases q : v = snk.toNatClampNeg
    · rw [if_pos q, if_pos q]
      refine Or.inr ⟨?_, ?_, ?_, ?_, ?_⟩ <;> simp [i32_0]
    · rw [if_neg q, if_neg q]
      exact Or.inl ⟨rfl, rfl, rfl⟩
  have h12 := h.2.1
  have hR := sc_it (bw := true) (fl := fl) h hR0 N (by omega)
  rw [← Fs_it (snk := snk) h hp]
  unfold fp_lab
  rw [(fp_se_it (bw := true) (fr := fr) (to := to) (cap := cap) (uc := uc) (fl := fl) (A := 2 * E) N _ _).1, (fp_se_it (bw := true) (fr := fr) (to := to) (cap := cap) (uc := uc) (fl := fl) (A := 2 * E) N _ _).2.1]
  exact hR
theorem wp_P (s : (Nat → Int32) × (Nat → Int64) × (Nat → Int32)) (n : Nat) : fp_wp fr to cap uc fl snk s (n + 1) = fp_wx fr to cap uc fl snk n (fp_wp fr to cap uc fl snk s n) := rfl
theorem os_fx {F : Nat → Option Int} (hF : bf_fx (pq_o cap fl) (pq_e fr to) (pq_b fr to) (pq_w uc) (2 * E) F) : bf_fx (pq_os fr to cap fl snk) (pq_e fr to) (pq_b fr to) (pq_w uc) (2 * E) F := by
  intro a ha ho
  refine hF a ha ?_
  have : (decide (0 < fp_lf cap fl a) && !decide (fp_bg fr to a = snk)) = true := ho
  exact (Bool.and_eq_true _ _ ▸ this).1
theorem os_gd (h : pq_net fr to cap uc N E) (hsnk : vp_in snk N) : ∀ a, a < 2 * E → (pq_os fr to cap fl snk a = pq_o cap fl a ∨ (pq_b fr to a = snk.toNatClampNeg ∧ pq_os fr to cap fl snk a = false)) := by
  intro a ha
  by_cases q : fp_bg fr to a = snk
  · refine Or.inr ⟨by unfold pq_b; rw [q], ?_⟩
    show (_ && !decide (fp_bg fr to a = snk)) = false
    rw [decide_eq_true q]; simp
  · refine Or.inl ?_
    show (decide (0 < fp_lf cap fl a) && !decide (fp_bg fr to a = snk)) = decide (0 < fp_lf cap fl a)
    rw [decide_eq_false q]; simp
/-- the reference's labels to the sink are these too -/
theorem ws_R (h : pq_net fr to cap uc N E) (hp : pq_pot fr to cap uc fl E pi) (hsnk : vp_in snk N) (hw : Nat → Int32) (ct : Nat → Int64) (ta : Nat → Int32) : ∀ k : Nat, k ≤ 20 →
    sr_R N (80 * k) (fp_ws fr to cap uc fl snk (2 * E) (fp_w0 N snk hw ct ta) k).1 (fp_ws fr to cap uc fl snk (2 * E) (fp_w0 N snk hw ct ta) k).2.1 (fp_ws fr to cap uc fl snk (2 * E) (fp_w0 N snk hw ct ta) k).2.2 (bf_it (pq_os fr to cap fl snk) (pq_e fr to) (pq_b fr to) (pq_w uc) (2 * E) (bf_L0 snk.toNatClampNeg) k)
  | 0, _ => by
    intro v hv
    have h12 := h.2.1
    unfold fp_ws fp_w0 bf_it bf_L0
    dsimp only
    rw [if_pos hv, if_pos hv, if_pos hv]
    obtain ⟨j, hj, rfl⟩ := vp_in_of hsnk (by omega)
    rw [nI_clamp (by omega)]
    by_cases q : v = j
    · rw [if_pos q, if_pos (by rw [q])]
      refine Or.inr ⟨?_, rfl, ?_, ?_, ?_, ?_⟩ <;> simp [i32_0, i64_0]
    · rw [if_neg q, if_neg (fun z => q ((nI_eq (by omega) (by omega)).mp z))]
      exact Or.inl ⟨rfl, rfl, rfl, rfl⟩
  | k + 1, hk => by
    have hE := h.2.2.1
    have i := (gp_pass (A := 2 * E) (stp := fp_wx fr to cap uc fl snk) (flg := fun s => s.2.2.2) (R := fun t s L => sr_R N t s.1 s.2.1 s.2.2.1 L) (by omega) (fun a t st L ha h0 h1 hr => sr_step h snk a t st L ha h0 h1 hr) (P := fp_wp fr to cap uc fl snk (fp_ws fr to cap uc fl snk (2 * E) (fp_w0 N snk hw ct ta) k)) (fun n => rfl) (t := 80 * k) (by omega) (by omega) (ws_R h hp hsnk hw ct ta k (by omega)) (2 * E) (Nat.le_refl _)).1
    exact sr_mono (by omega) i
theorem ws_F (h : pq_net fr to cap uc N E) (hp : pq_pot fr to cap uc fl E pi) (hsnk : vp_in snk N) (hw : Nat → Int32) (ct : Nat → Int64) (ta : Nat → Int32) :
    sr_R N (80 * N) (fp_ws fr to cap uc fl snk (2 * E) (fp_w0 N snk hw ct ta) N).1 (fp_ws fr to cap uc fl snk (2 * E) (fp_w0 N snk hw ct ta) N).2.1 (fp_ws fr to cap uc fl snk (2 * E) (fp_w0 N snk hw ct ta) N).2.2 (fp_Fs fr to cap uc fl N E snk) ∧ (fp_wp fr to cap uc fl snk (fp_ws fr to cap uc fl snk (2 * E) (fp_w0 N snk hw ct ta) N) (2 * E)).2.2.2 = 0 := by
  have h12 := h.2.1
  have hE := h.2.2.1
  have i := ws_R h hp hsnk hw ct ta N (by omega)
  rw [(bf_gi (pi := fun v => pi v * 1000000) (op := pq_o cap fl) (op' := pq_os fr to cap fl snk) (os_gd h hsnk) (Fs_hpi hp) (fun a ha q => h.ne ha q.symm) (bf_L0_inv _ _) N).2, Fs_it (snk := snk) h hp] at i
  refine ⟨i, ?_⟩
  have := gp_fx (A := 2 * E) (stp := fp_wx fr to cap uc fl snk) (flg := fun s => s.2.2.2) (R := fun t s L => sr_R N t s.1 s.2.1 s.2.2.1 L) (by omega) (fun a t st L ha h0 h1 hr => sr_step h snk a t st L ha h0 h1 hr) (P := fp_wp fr to cap uc fl snk (fp_ws fr to cap uc fl snk (2 * E) (fp_w0 N snk hw ct ta) N)) (fun n => rfl) (t := 80 * N) (by omega) (by omega) i (os_fx (Fs_fx h hp))
  rw [this]; rfl
/-- both sides' labels, node by node -/
theorem lab_eq (h : pq_net fr to cap uc N E) {le fe hw ta : Nat → Int32} {ct : Nat → Int64} {F : Nat → Option Int} (h1 : sc_R N (80 * N) le fe F) (h2 : sr_R N (80 * N) hw ct ta F) {v : Nat} (hv : v < N) :
    (F v = none ∧ le v = 2147483647 ∧ fe v = 0 ∧ hw v = 0 ∧ ct v = 0 ∧ ta v = 0) ∨ (F v = some ((le v).toInt * 1000000 + (fe v).toInt) ∧ hw v = 1 ∧ (ct v).toInt = (le v).toInt ∧ ta v = fe v ∧ -10000000 ≤ (le v).toInt ∧ (le v).toInt ≤ 10000000 ∧ 0 ≤ (fe v).toInt ∧ (fe v).toInt ≤ 1000) := by
  have h12 := h.2.1
  rcases h1 v hv with ⟨a1, a2, a3⟩ | ⟨a1, a2, a3, a4, a5⟩ <;> rcases h2 v hv with ⟨b1, b2, b3, b4⟩ | ⟨b1, b2, b3, b4, b5, b6⟩
  · exact Or.inl ⟨a1, a2, a3, b2, b3, b4⟩
  · rw [a1] at b1; cases b1
  · rw [a1] at b1; cases b1
  · refine Or.inr ?_
    have e := Option.some.inj (a1.symm.trans b1)
    exact ⟨a1, b2, by omega, i32_inj (by omega), by omega, by omega, a4, by omega⟩
theorem i64_32 {x : Int64} {y : Int32} (h : x.toInt = y.toInt) : x.toInt32 = y := by
  have e : x = y.toInt64 := i64_inj (by rw [h, i32_64])
  rw [e]; exact Int32.toInt32_toInt64 y
/-- P2 -/
theorem HL_of {src : Int32} (h : pq_net fr to cap uc N E) (hp : pq_pot fr to cap uc fl E pi) (hsrc : vp_in src N) (hsnk : vp_in snk N) : fp_HL fr to cap uc N E src snk N fl := by
  intro hw ct ta
  obtain ⟨r2, fz⟩ := ws_F h hp hsnk hw ct ta
  have r1 := lab_R (snk := snk) h hp
  have h12 := h.2.1
  refine ⟨fz, ?_, ?_, ?_⟩
  · rcases lab_eq h r1 r2 (vp_lt hsrc) with ⟨-, a2, a3, a4, a5, a6⟩ | ⟨a1, a2, a3, a4, a5, a6, a7, a8⟩
    · rw [if_pos a2, a4]
    · rw [if_neg (fun q => by rw [q, i32_M] at a6; omega), a2]
  · intro v hv
    refine la_congr _ _ (fun a _ ha => ?_)
    have ha' : a < 2 * E := by omega
    by_cases c1 : fp_bg fr to a = v
    · by_cases c2 : fp_lf cap fl a ≤ 0
      · rw [tq_2 c2, tg_2 (i32_le0.mp c2)]
      · have c2' : 0 < fp_lf cap fl a := Int32.not_le.mp c2
        obtain ⟨p1, p2⟩ := h.p ha'
        rcases lab_eq h r1 r2 (vp_lt (h.e ha')) with ⟨-, a2, a3, a4, a5, a6⟩ | ⟨a1, a2, a3, a4, a5, a6, a7, a8⟩
        · rw [tq_3 a4, tg_3 a2]
        · have e2 : ((fp_lab fr to cap uc N E snk fl).2.1 (fp_en fr to a).toNatClampNeg + 1).toInt = ((fp_lab fr to cap uc N E snk fl).2.1 (fp_en fr to a).toNatClampNeg).toInt + 1 := by rw [i32_add (by rw [i32_1]; omega) (by rw [i32_1]; omega), i32_1]
          have hM : ¬ (fp_lab fr to cap uc N E snk fl).1 (fp_en fr to a).toNatClampNeg = 2147483647 := fun q => by rw [q, i32_M] at a6; omega
          rcases lab_eq h r1 r2 (vp_lt hv) with ⟨-, b2, b3, b4, b5, b6⟩ | ⟨b1, b2, b3, b4, b5, b6, b7, b8⟩
          · rw [tq_5 (fun q => by rw [b6, a4] at q; have := congrArg Int32.toInt q; rw [e2, i32_0] at this; omega), tg_5 (fun q => by rw [b3] at q; have := congrArg Int32.toInt q; rw [e2, i32_0] at this; omega)]
          · have e1 : ((fp_lab fr to cap uc N E snk fl).1 (fp_en fr to a).toNatClampNeg + fp_pr uc a).toInt = ((fp_lab fr to cap uc N E snk fl).1 (fp_en fr to a).toNatClampNeg).toInt + (fp_pr uc a).toInt := i32_add (by omega) (by omega)
            have e0 : (fp_pr uc a).toInt64.toInt = (fp_pr uc a).toInt := i32_64 _
            have e3 : ((fp_ws fr to cap uc fl snk (2 * E) (fp_w0 N snk hw ct ta) N).2.1 (fp_en fr to a).toNatClampNeg + (fp_pr uc a).toInt64).toInt = ((fp_ws fr to cap uc fl snk (2 * E) (fp_w0 N snk hw ct ta) N).2.1 (fp_en fr to a).toNatClampNeg).toInt + (fp_pr uc a).toInt := by rw [i64_add (by rw [e0]; omega) (by rw [e0]; omega), e0]
            by_cases c4 : (fp_lab fr to cap uc N E snk fl).1 (fp_en fr to a).toNatClampNeg + fp_pr uc a = (fp_lab fr to cap uc N E snk fl).1 v.toNatClampNeg
            · have c4' : (fp_ws fr to cap uc fl snk (2 * E) (fp_w0 N snk hw ct ta) N).2.1 (fp_en fr to a).toNatClampNeg + (fp_pr uc a).toInt64 = (fp_ws fr to cap uc fl snk (2 * E) (fp_w0 N snk hw ct ta) N).2.1 v.toNatClampNeg := i64_inj (by rw [e3, a3, b3, ← e1, c4])
              by_cases c5 : (fp_lab fr to cap uc N E snk fl).2.1 (fp_en fr to a).toNatClampNeg + 1 = (fp_lab fr to cap uc N E snk fl).2.1 v.toNatClampNeg
              · rw [tg_t c1 c2' hM c4 c5, tq_t c1 c2 (by rw [a2]; decide) ((lg_cmp_eq _ _).mpr c4') (by rw [a4, b4]; exact c5)]
              · rw [tg_5 c5, tq_5 (by rw [a4, b4]; exact c5)]
            · have c4' : ¬ (fp_ws fr to cap uc fl snk (2 * E) (fp_w0 N snk hw ct ta) N).2.1 (fp_en fr to a).toNatClampNeg + (fp_pr uc a).toInt64 = (fp_ws fr to cap uc fl snk (2 * E) (fp_w0 N snk hw ct ta) N).2.1 v.toNatClampNeg := by
                intro q
                apply c4
                apply i32_inj
                have := congrArg Int64.toInt q
                rw [e3, a3, b3] at this
                rw [e1]; exact this
              rw [tg_4 c4, tq_4 (fun q => c4' ((lg_cmp_eq _ _).mp q))]
    · rw [tq_1 c1, tg_1 c1]
  · intro hfo
    rcases lab_eq h r1 r2 (vp_lt hsrc) with ⟨-, a2, -⟩ | ⟨a1, a2, a3, a4, a5, a6, a7, a8⟩
    · exact absurd a2 hfo
    · refine ⟨?_, i64_32 a3⟩
      rw [a4]
      unfold fp_K
      obtain ⟨j, hj, e⟩ := nI_of (x := (fp_lab fr to cap uc N E snk fl).2.1 src.toNatClampNeg) (by rw [i32_lt, i32_0]; omega)
      rw [e, nI_clamp hj]
end
