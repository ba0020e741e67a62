theorem vp_le {x : Int32} {N K : Nat} (h : N ≤ K) (hx : vp_in x N) : vp_in x K := by rw [vp_in_iff] at hx ⊢; omega
theorem in_s {g w : Nat → Int32} {i : Nat} (P : Nat → Int32) (hg : ∀ j, g j = if j < i then P j else w j) {v : Int32} (hv : v = P i) : ∀ j, upd g i v j = if j < i + 1 then P j else w j := by
  intro j
  unfold upd
  by_cases q : j = i
  · rw [if_pos q, if_pos (by omega), q, hv]
  · rw [if_neg q, hg j]
    by_cases q2 : j < i
    · rw [if_pos q2, if_pos (by omega)]
    · rw [if_neg q2, if_neg (by omega)]
theorem in_sL {g w : Nat → Int64} {i : Nat} (P : Nat → Int64) (hg : ∀ j, g j = if j < i then P j else w j) {v : Int64} (hv : v = P i) : ∀ j, vp_updL g i v j = if j < i + 1 then P j else w j := by
  intro j
  unfold vp_updL
  by_cases q : j = i
  · rw [if_pos q, if_pos (by omega), q, hv]
  · rw [if_neg q, hg j]
    by_cases q2 : j < i
    · rw [if_pos q2, if_pos (by omega)]
    · rw [if_neg q2, if_neg (by omega)]
theorem in_0 {α : Type} {w P : Nat → α} : ∀ j, w j = if j < 0 then P j else w j := fun j => (if_neg (Nat.not_lt_zero j)).symm
theorem ws_nx {fr to cap uc fl : Nat → Int32} {snk : Int32} {A K k2 : Nat} {s S : (Nat → Int32) × (Nat → Int64) × (Nat → Int32)} {g3 : Nat → Int32} {h3 : Nat → Int64} {t3 : Nat → Int32} {c3 : Int32}
    (hst : (fp_wp fr to cap uc fl snk (fp_ws fr to cap uc fl snk A s K) A).2.2.2 = 0) (hk : k2 ≤ K) (hS : S = fp_ws fr to cap uc fl snk A s k2) (hp : fp_wp fr to cap uc fl snk S A = (g3, h3, t3, c3)) :
    (c3 = 0 ∧ (g3, h3, t3) = fp_ws fr to cap uc fl snk A s K) ∨ (¬ c3 = 0 ∧ k2 + 1 ≤ K ∧ (g3, h3, t3) = fp_ws fr to cap uc fl snk A s (k2 + 1)) := by
  have e1 : (g3, h3, t3) = fp_ws fr to cap uc fl snk A s (k2 + 1) := by rw [fp_ws, ← hS, hp]
  by_cases c : c3 = 0
  · refine Or.inl ⟨c, ?_⟩
    have f0 : (fp_wp fr to cap uc fl snk (fp_ws fr to cap uc fl snk A s k2) A).2.2.2 = 0 := by rw [← hS, hp]; exact c
    rw [e1, fp_ws_st f0 1, show K = k2 + (K - k2) by omega, fp_ws_st f0]
  · refine Or.inr ⟨c, ?_, e1⟩
    rcases Nat.lt_or_ge k2 K with h | h
    · omega
    · have : k2 = K := by omega
      subst this
      rw [← hS, hp] at hst
      exact absurd hst c
theorem cs_nx {fr to cap uc fl : Nat → Int32} {src : Int32} {A K k2 : Nat} {s S : (Nat → Int32) × (Nat → Int64)} {g3 : Nat → Int32} {h3 : Nat → Int64} {c3 : Int32}
    (hst : (fp_cp fr to cap uc fl src (fp_cs fr to cap uc fl src A s K) A).2.2 = 0) (hk : k2 ≤ K) (hS : S = fp_cs fr to cap uc fl src A s k2) (hp : fp_cp fr to cap uc fl src S A = (g3, h3, c3)) :
    (c3 = 0 ∧ (g3, h3) = fp_cs fr to cap uc fl src A s K) ∨ (¬ c3 = 0 ∧ k2 + 1 ≤ K ∧ (g3, h3) = fp_cs fr to cap uc fl src A s (k2 + 1)) := by
  have e1 : (g3, h3) = fp_cs fr to cap uc fl src A s (k2 + 1) := by rw [fp_cs, ← hS, hp]
  by_cases c : c3 = 0
  · refine Or.inl ⟨c, ?_⟩
    have f0 : (fp_cp fr to cap uc fl src (fp_cs fr to cap uc fl src A s k2) A).2.2 = 0 := by rw [← hS, hp]; exact c
    rw [e1, fp_cs_st f0 1, show K = k2 + (K - k2) by omega, fp_cs_st f0]
  · refine Or.inr ⟨c, ?_, e1⟩
    rcases Nat.lt_or_ge k2 K with h | h
    · omega
    · have : k2 = K := by omega
      subst this
      rw [← hS, hp] at hst
      exact absurd hst c
/-- what the reference's labels to the sink must be, for flows f -/
def fp_HL (fr to cap uc : Nat → Int32) (N E : Nat) (src snk : Int32) (KP : Nat) (f : Nat → Int32) : Prop := ∀ (hw : Nat → Int32) (ct : Nat → Int64) (ta : Nat → Int32),
  (fp_wp fr to cap uc f snk (fp_ws fr to cap uc f snk (2 * E) (fp_w0 N snk hw ct ta) KP) (2 * E)).2.2.2 = 0 ∧
  (fp_ws fr to cap uc f snk (2 * E) (fp_w0 N snk hw ct ta) KP).1 src.toNatClampNeg = (if (fp_lab fr to cap uc N E snk f).1 src.toNatClampNeg = 2147483647 then 0 else 1) ∧
  (∀ v, vp_in v N → fp_la (fp_tq fr to cap uc f (fp_ws fr to cap uc f snk (2 * E) (fp_w0 N snk hw ct ta) KP).1 (fp_ws fr to cap uc f snk (2 * E) (fp_w0 N snk hw ct ta) KP).2.1 (fp_ws fr to cap uc f snk (2 * E) (fp_w0 N snk hw ct ta) KP).2.2 v) (2 * E) 0 = fp_nxf fr to cap uc N E snk f v) ∧
  (fp_fo fr to cap uc N E src snk f → (fp_ws fr to cap uc f snk (2 * E) (fp_w0 N snk hw ct ta) KP).2.2 src.toNatClampNeg = nI (fp_K fr to cap uc N E src snk f) ∧ ((fp_ws fr to cap uc f snk (2 * E) (fp_w0 N snk hw ct ta) KP).2.1 src.toNatClampNeg).toInt32 = (fp_lab fr to cap uc N E snk f).1 src.toNatClampNeg)
theorem b01_of {x : Int32} {c : Prop} {_ : Decidable c} (h : x = (if c then 0 else 1)) : x = 0 ∨ x = 1 := by
  rw [h]; split
  · exact Or.inl rfl
  · exact Or.inr rfl
