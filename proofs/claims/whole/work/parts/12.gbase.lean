theorem vp_nm1 {x : Int32} {N : Nat} (hN : N < 1000) (h : vp_in x N) : ¬ x = -1 := by
  obtain ⟨j, hj, rfl⟩ := vp_in_of h (by omega)
  exact nI_nm1 (by omega)
def fq_eg (N M E : Nat) (cap : Nat → Int32) (u v cp cs : Int32) : Prop := vp_in u N ∧ vp_in v N ∧ ¬ u = v ∧ ¬ cp < 0 ∧ cp ≤ 1000000 ∧ ¬ cs < -10000 ∧ cs ≤ 10000 ∧ E < M ∧ fp_sum (fun e => (cap e).toInt64) E + cp.toInt64 ≤ 1073741824
def fq_nf (N : Nat) (u v : Int32) : Prop := vp_in u N ∧ vp_in v N ∧ ¬ u = v
theorem hn_c {x : Int32} {N : Nat} (hN : N < 1000) (h : vp_in x N) : ¬ (if ¬ x < 0 ∧ x < nI N then (1 : Int32) else 0) = 0 := fun q => hn_out hN q h
theorem full_0 {M E : Nat} (h : E < M) : (if M ≤ E then (1 : Int32) else 0) = 0 := if_neg (by omega)
theorem full_1 {M E : Nat} (h : (if M ≤ E then (1 : Int32) else 0) = 0) : E < M := by
  rcases Nat.lt_or_ge E M with q | q
  · exact q
  · rw [if_pos q] at h; exact absurd h (by decide)
theorem R_le {R : Nat} (h : R ≤ 10000) : nI R ≤ 10000 := by
  rw [show (10000 : Int32) = nI 10000 from rfl]
  exact nI_le h (by omega)
theorem upd_in {f : Nat → Int32} {N E : Nat} {x : Int32} (h : ∀ e, e < E → vp_in (f e) N) (hx : vp_in x N) : ∀ e, e < E + 1 → vp_in (upd f E x e) N := by
  intro e he
  unfold upd
  by_cases q : e = E
  · rw [if_pos q]; exact hx
  · rw [if_neg q]; exact h e (by omega)
