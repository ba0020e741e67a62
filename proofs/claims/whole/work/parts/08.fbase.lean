def fq_fit (cap fl : Nat → Int32) (E : Nat) : Prop := ∀ e, e < E → ¬ fl e < 0 ∧ fl e ≤ cap e
def fq_pas (fr to fl : Nat → Int32) (N E : Nat) (src snk : Int32) : Prop := ∀ v, v < N → nI v = src ∨ nI v = snk ∨ fp_sur fr to fl (nI v) E = 0
def fq_cap (fr to cap le : Nat → Int32) : Nat → Int64
  | 0 => 0
  | e + 1 => if ¬ le (fr e).toNatClampNeg = 2147483647 ∧ le (to e).toNatClampNeg = 2147483647 then fq_cap fr to cap le e + (cap e).toInt64 else fq_cap fr to cap le e
def fq_cue (fr to cap fl le : Nat → Int32) (e : Nat) : Prop := (¬ le (fr e).toNatClampNeg = 2147483647 → le (to e).toNatClampNeg = 2147483647 → fl e = cap e) ∧ (le (fr e).toNatClampNeg = 2147483647 → ¬ le (to e).toNatClampNeg = 2147483647 → fl e = 0)
def fq_cut (fr to cap fl le : Nat → Int32) (E : Nat) (fw : Int32) : Prop := (∀ e, e < E → fq_cue fr to cap fl le e) ∧ fq_cap fr to cap le E = fw.toInt64
def fq_poa (fr to cap uc fl le : Nat → Int32) (a : Nat) : Prop := 0 < fp_lf cap fl a → ¬ le (fp_bg fr to a).toNatClampNeg = 2147483647 → ¬ le (fp_en fr to a).toNatClampNeg = 2147483647 → le (fp_en fr to a).toNatClampNeg ≤ le (fp_bg fr to a).toNatClampNeg + fp_pr uc a
def fq_pot (fr to cap uc fl le : Nat → Int32) (E : Nat) : Prop := ∀ a, a < 2 * E → fq_poa fr to cap uc fl le a
def fq_ck (fr to cap uc fl le : Nat → Int32) (N E : Nat) (src snk sol fw : Int32) : Prop := ¬ sol = 0 ∧ fq_fit cap fl E ∧ fq_pas fr to fl N E src snk ∧ fq_cut fr to cap fl le E fw ∧ fq_pot fr to cap uc fl le E
def fq_b (P : Prop) (r : Int32) : Prop := (r = 1 ∧ P) ∨ (r = 0 ∧ ¬ P)
theorem fq_b0 {P : Prop} {r : Int32} (h : fq_b P r) (c : r = 0) : ¬ P := by
  rcases h with ⟨h, _⟩ | ⟨_, h⟩
  · rw [h] at c; exact absurd c (by decide)
  · exact h
theorem fq_b1 {P : Prop} {r : Int32} (h : fq_b P r) (c : ¬ r = 0) : P := by
  rcases h with ⟨_, h⟩ | ⟨h, _⟩
  · exact h
  · exact absurd h c
theorem fq_b_iff {P : Prop} {r s : Int32} (h : fq_b P r) (g : fq_b P s) : r = s := by
  rcases h with ⟨h, a⟩ | ⟨h, a⟩ <;> rcases g with ⟨g, b⟩ | ⟨g, b⟩
  · rw [h, g]
  · exact absurd a b
  · exact absurd b a
  · rw [h, g]
theorem hn_in {x : Int32} {N : Nat} (hN : N < 1000) (h : ¬ (if ¬ x < 0 ∧ x < nI N then (1 : Int32) else 0) = 0) : vp_in x N := by
  by_cases q : ¬ x < 0 ∧ x < nI N
  · obtain ⟨j, hj, rfl⟩ := nI_of q.1
    rw [nI_ltI (by omega) (by omega)] at q
    exact vp_in_nI q.2 (by omega)
  · rw [if_neg q] at h; exact absurd rfl h
theorem hn_out {x : Int32} {N : Nat} (hN : N < 1000) (h : (if ¬ x < 0 ∧ x < nI N then (1 : Int32) else 0) = 0) : ¬ vp_in x N := by
  intro q
  obtain ⟨j, hj, rfl⟩ := vp_in_of q (by omega)
  rw [if_pos ⟨nI_pos (by omega), nI_lt hj (by omega)⟩] at h
  exact absurd h (by decide)
theorem hn_inv {x : Int32} {N : Nat} (hN : N < 1000) (h : ¬ vp_in x N) : (if ¬ x < 0 ∧ x < nI N then (1 : Int32) else 0) = 0 := Decidable.byContradiction (fun q => h (hn_in hN q))
theorem sw4 {x : Int32} (h0 : ¬ x = 0) (h1 : ¬ x = 1) (h2 : ¬ x = 2) (h3 : ¬ x = 3) : x.toInt < 0 ∨ 3 < x.toInt := by
  have e0 : ¬ x.toInt = 0 := fun q => h0 (Int32.toInt_inj.mp (by rw [q]; rfl))
  have e1 : ¬ x.toInt = 1 := fun q => h1 (Int32.toInt_inj.mp (by rw [q]; rfl))
  have e2 : ¬ x.toInt = 2 := fun q => h2 (Int32.toInt_inj.mp (by rw [q]; rfl))
  have e3 : ¬ x.toInt = 3 := fun q => h3 (Int32.toInt_inj.mp (by rw [q]; rfl))
  omega
