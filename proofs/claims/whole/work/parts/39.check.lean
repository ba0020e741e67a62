section
variable {fr to cap uc fl : Nat → Int32} {N E : Nat} {src snk : Int32} {pi : Nat → Int}
/-- the costs from the source, final -/
def fp_Ff (fr to cap uc fl : Nat → Int32) (N E : Nat) (src : Int32) : Nat → Option Int := bf_it (pq_o cap fl) (pq_b fr to) (pq_e fr to) (pq_c uc) (2 * E) (bf_L0 src.toNatClampNeg) (N - 1)
theorem Ff_hpi (hp : pq_pot fr to cap uc fl E pi) : ∀ a, a < 2 * E → pq_o cap fl a = true → (fun v => - pi v) (pq_e fr to a) ≤ (fun v => - pi v) (pq_b fr to a) + pq_c uc a := by
  intro a ha ho
  have := hp a ha (of_decide_eq_true ho)
  dsimp only
  unfold pq_c
  omega
theorem Ff_hN (h : pq_net fr to cap uc N E) : ∀ a, a < 2 * E → pq_o cap fl a = true → pq_b fr to a < N - 1 + 1 ∧ pq_e fr to a < N - 1 + 1 := pq_hN (bw := false) h
theorem Ff_fx (h : pq_net fr to cap uc N E) (hp : pq_pot fr to cap uc fl E pi) : bf_fx (pq_o cap fl) (pq_b fr to) (pq_e fr to) (pq_c uc) (2 * E) (fp_Ff fr to cap uc fl N E src) := bf_end (pi := fun v => - pi v) (Ff_hpi hp) (Ff_hN h)
theorem Ff_it (h : pq_net fr to cap uc N E) (hp : pq_pot fr to cap uc fl E pi) : bf_it (pq_o cap fl) (pq_b fr to) (pq_e fr to) (pq_c uc) (2 * E) (bf_L0 src.toNatClampNeg) N = fp_Ff fr to cap uc fl N E src := by
  have := h.1
  have e := bf_it_st (Ff_fx (src := src) h hp) 1
  rw [show N - 1 + 1 = N by omega] at e
  exact e
theorem fab_R (h : pq_net fr to cap uc N E) (hp : pq_pot fr to cap uc fl E pi) : sk_R N (80 * N) (fp_fab fr to cap uc N E src fl).1 (fp_Ff fr to cap uc fl N E src) := by
  have hR0 : sk_R N 0 (upd (fun _ => 2147483647) src.toNatClampNeg 0) (bf_L0 src.toNatClampNeg) := by
    intro v _
    unfold bf_L0 upd
    by_cases q : v = src.toNatClampNeg
    · rw [if_pos q, if_pos q]
      refine Or.inr ⟨?_, ?_, ?_⟩ <;> simp [i32_0]
    · rw [if_neg q, if_neg q]
      exact Or.inl ⟨rfl, rfl⟩
  have h12 := h.2.1
  have hR := sk_it (fl := fl) h hR0 N (by omega) (fe := fun _ => 0)
  rw [← Ff_it (src := src) h hp]
  unfold fp_fab
  rw [(fp_se_it (bw := false) (fr := fr) (to := to) (cap := cap) (uc := uc) (fl := fl) (A := 2 * E) N _ _).1]
  exact hR
theorem of_fx {F : Nat → Option Int} (hF : bf_fx (pq_o cap fl) (pq_b fr to) (pq_e fr to) (pq_c uc) (2 * E) F) : bf_fx (pq_of fr to cap fl src) (pq_b fr to) (pq_e fr to) (pq_c uc) (2 * E) F := by
  intro a ha ho
  refine hF a ha ?_
  have : (decide (0 < fp_lf cap fl a) && !decide (fp_en fr to a = src)) = true := ho
  exact (Bool.and_eq_true _ _ ▸ this).1
theorem of_gd (h : pq_net fr to cap uc N E) (hsrc : vp_in src N) : ∀ a, a < 2 * E → (pq_of fr to cap fl src a = pq_o cap fl a ∨ (pq_e fr to a = src.toNatClampNeg ∧ pq_of fr to cap fl src a = false)) := by
  intro a ha
  by_cases q : fp_en fr to a = src
  · refine Or.inr ⟨by unfold pq_e; rw [q], ?_⟩
    show (_ && !decide (fp_en fr to a = src)) = false
    rw [decide_eq_true q]; simp
  · refine Or.inl ?_
    show (decide (0 < fp_lf cap fl a) && !decide (fp_en fr to a = src)) = decide (0 < fp_lf cap fl a)
    rw [decide_eq_false q]; simp
theorem cs_R (h : pq_net fr to cap uc N E) (hsrc : vp_in src N) (hw : Nat → Int32) (ct : Nat → Int64) : ∀ k : Nat, k ≤ 20 →
    sf_R N (80 * k) (fp_cs fr to cap uc fl src (2 * E) (fp_c0 N src hw ct) k).1 (fp_cs fr to cap uc fl src (2 * E) (fp_c0 N src hw ct) k).2 (bf_it (pq_of fr to cap fl src) (pq_b fr to) (pq_e fr to) (pq_c uc) (2 * E) (bf_L0 src.toNatClampNeg) k)
  | 0, _ => by
    intro v hv
    have h12 := h.2.1
    unfold fp_cs fp_c0 bf_it bf_L0
    dsimp only
    rw [if_pos hv, if_pos hv]
    obtain ⟨j, hj, rfl⟩ := vp_in_of hsrc (by omega)
    rw [nI_clamp (by omega)]
    by_cases q : v = j
    · rw [if_pos q, if_pos (by rw [q])]
      refine Or.inr ⟨?_, rfl, ?_, ?_⟩ <;> simp [i64_0]
    · rw [if_neg q, if_neg (fun z => q ((nI_eq (by omega) (by omega)).mp z))]
      exact Or.inl ⟨rfl, rfl⟩
  | k + 1, hk => by
    have hE := h.2.2.1
    have i := (gp_pass (A := 2 * E) (stp := fp_cx fr to cap uc fl src) (flg := fun s => s.2.2) (R := fun t s L => sf_R N t s.1 s.2.1 L) (by omega) (fun a t st L ha h0 h1 hr => sf_step h src a t st L ha h0 h1 hr) (P := fp_cp fr to cap uc fl src (fp_cs fr to cap uc fl src (2 * E) (fp_c0 N src hw ct) k)) (fun n => rfl) (t := 80 * k) (by omega) (by omega) (cs_R h hsrc hw ct k (by omega)) (2 * E) (Nat.le_refl _)).1
    exact sf_mono (by omega) i
/-- P5: the reference's costs from the source -/
theorem HF_of (h : pq_net fr to cap uc N E) (hp : pq_pot fr to cap uc fl E pi) (hsrc : vp_in src N) (hw : Nat → Int32) (ct : Nat → Int64) :
    (fp_cp fr to cap uc fl src (fp_cs fr to cap uc fl src (2 * E) (fp_c0 N src hw ct) N) (2 * E)).2.2 = 0 ∧ ∀ v, v < N → ((fp_fab fr to cap uc N E src fl).1 v = 2147483647 ∧ (fp_cs fr to cap uc fl src (2 * E) (fp_c0 N src hw ct) N).1 v = 0) ∨ (¬ (fp_fab fr to cap uc N E src fl).1 v = 2147483647 ∧ (fp_cs fr to cap uc fl src (2 * E) (fp_c0 N src hw ct) N).1 v = 1 ∧ ((fp_cs fr to cap uc fl src (2 * E) (fp_c0 N src hw ct) N).2 v).toInt = ((fp_fab fr to cap uc N E src fl).1 v).toInt ∧ -10000000 ≤ ((fp_fab fr to cap uc N E src fl).1 v).toInt ∧ ((fp_fab fr to cap uc N E src fl).1 v).toInt ≤ 10000000) := by
  have h12 := h.2.1
  have hE := h.2.2.1
  have i := cs_R (fl := fl) h hsrc hw ct N (by omega)
  rw [(bf_gi (pi := fun v => - pi v) (op := pq_o cap fl) (op' := pq_of fr to cap fl src) (of_gd h hsrc) (Ff_hpi hp) (fun a ha q => h.ne ha q) (bf_L0_inv _ _) N).2, Ff_it (src := src) h hp] at i
  have r1 := fab_R (src := src) h hp
  refine ⟨?_, fun v hv => ?_⟩
  · have := gp_fx (A := 2 * E) (stp := fp_cx fr to cap uc fl src) (flg := fun s => s.2.2) (R := fun t s L => sf_R N t s.1 s.2.1 L) (by omega) (fun a t st L ha h0 h1 hr => sf_step h src a t st L ha h0 h1 hr) (P := fp_cp fr to cap uc fl src (fp_cs fr to cap uc fl src (2 * E) (fp_c0 N src hw ct) N)) (fun n => rfl) (t := 80 * N) (by omega) (by omega) i (of_fx (Ff_fx h hp))
    rw [this]; rfl
  · rcases r1 v hv with ⟨a1, a2⟩ | ⟨a1, a2, a3⟩ <;> rcases i v hv with ⟨b1, b2⟩ | ⟨b1, b2, b3, b4⟩
    · exact Or.inl ⟨a2, b2⟩
    · rw [a1] at b1; cases b1
    · rw [a1] at b1; cases b1
    · refine Or.inr ⟨fun q => by rw [q, i32_M] at a3; omega, b2, ?_, by omega, by omega⟩
      exact (Option.some.inj (a1.symm.trans b1)).symm
theorem i64_sub0 (x : Int64) : x + 0 = x := Int64.add_zero x
theorem i64_neg (a : Int32) (h : -2147483647 ≤ a.toInt) : (-a).toInt64 = - a.toInt64 := by
  apply i64_inj
  have hb := i32_b a
  rw [i32_64, i32_neg h, Int64.toInt_neg, i32_64]
  exact (Int.bmod_eq_of_le (by omega) (by omega)).symm
theorem sur_eq (h : pq_net fr to cap uc N E) (hb : ∀ e, e < E → 0 ≤ (fl e).toInt ∧ (fl e).toInt ≤ (cap e).toInt) (x : Int32) : ∀ n, n ≤ E → rq_sur fr to fl x n = fp_sur fr to fl x n
  | 0, _ => rfl
  | n + 1, hn => by
    have ih := sur_eq h hb x n (by omega)
    have hne := (h.2.2.2 n (by omega)).2.2.1
    have hb' := hb n (by omega)
    rw [rq_sur, fp_sur, ih]
    by_cases c1 : to n = x
    · have c2 : ¬ fr n = x := fun q => hne (q.trans c1.symm)
      rw [if_pos c1, if_neg c2, if_pos c1]
    · rw [if_neg c1, if_neg c1]
      by_cases c2 : fr n = x
      · rw [if_pos c2, if_pos c2, i64_neg _ (by omega), Int64.sub_eq_add_neg]
      · rw [if_neg c2, if_neg c2, i64_sub0]
/-- P6: both checks ask the same -/
theorem ck_eq {le hw : Nat → Int32} {ct : Nat → Int64} {sol fw : Int32} (h : pq_net fr to cap uc N E) (hb : ∀ e, e < E → 0 ≤ (fl e).toInt ∧ (fl e).toInt ≤ (cap e).toInt) (hs : ¬ sol = 0)
    (hl : ∀ v, v < N → (le v = 2147483647 ∧ hw v = 0) ∨ (¬ le v = 2147483647 ∧ hw v = 1 ∧ (ct v).toInt = (le v).toInt ∧ -10000000 ≤ (le v).toInt ∧ (le v).toInt ≤ 10000000)) :
    fq_ck fr to cap uc fl le N E src snk sol fw ↔ rq_ck hw ct fr to cap uc fl N E src snk fw := by
  have key : ∀ v, v < N → (le v = 2147483647 ↔ hw v = 0) := by
    intro v hv
    rcases hl v hv with ⟨a, b⟩ | ⟨a, b, -⟩
    · exact ⟨fun _ => b, fun _ => a⟩
    · exact ⟨fun q => absurd q a, fun q => by rw [b] at q; exact absurd q (by decide)⟩
  have hcue : ∀ e, e < E → (fq_cue fr to cap fl le e ↔ rq_cue hw fr to cap fl e) := by
    intro e he
    obtain ⟨g1, g2, -⟩ := h.2.2.2 e he
    unfold fq_cue rq_cue
    rw [key _ (vp_lt g1), key _ (vp_lt g2)]
  have hcap : ∀ n, n ≤ E → fq_cap fr to cap le n = rq_cap hw fr to cap n := by
    intro n
    induction n with
    | zero => intro _; rfl
    | succ n ih =>
      intro hn
      obtain ⟨g1, g2, -⟩ := h.2.2.2 n (by omega)
      have k1 := key _ (vp_lt g1)
      have k2 := key _ (vp_lt g2)
      rw [fq_cap, rq_cap, ih (by omega)]
      by_cases c : ¬ le (fr n).toNatClampNeg = 2147483647 ∧ le (to n).toNatClampNeg = 2147483647
      · rw [if_pos c, if_pos ⟨fun q => c.1 (k1.mpr q), k2.mp c.2⟩]
      · rw [if_neg c, if_neg (fun q => c ⟨fun z => q.1 (k1.mp z), k2.mpr q.2⟩), i64_sub0]
  have hpoa : ∀ a, a < 2 * E → (fq_poa fr to cap uc fl le a ↔ rq_poa hw ct fr to cap uc fl a) := by
    intro a ha
    unfold fq_poa rq_poa
    have kb := hl _ (vp_lt (h.b ha))
    have ke := hl _ (vp_lt (h.e ha))
    have k1 := key _ (vp_lt (h.b ha))
    have k2 := key _ (vp_lt (h.e ha))
    obtain ⟨p1, p2⟩ := h.p ha
    have main : ¬ le (fp_bg fr to a).toNatClampNeg = 2147483647 → ¬ le (fp_en fr to a).toNatClampNeg = 2147483647 → (le (fp_en fr to a).toNatClampNeg ≤ le (fp_bg fr to a).toNatClampNeg + fp_pr uc a ↔ ct (fp_en fr to a).toNatClampNeg ≤ ct (fp_bg fr to a).toNatClampNeg + (fp_pr uc a).toInt64) := by
      intro q1 q2
      rcases kb with ⟨z, -⟩ | ⟨-, b2, b3, b4, b5⟩
      · exact absurd z q1
      · rcases ke with ⟨z, -⟩ | ⟨-, e2, e3, e4, e5⟩
        · exact absurd z q2
        · have e0 : (fp_pr uc a).toInt64.toInt = (fp_pr uc a).toInt := i32_64 _
          rw [i32_le, i64_le, i32_add (by omega) (by omega), i64_add (by rw [e0]; omega) (by rw [e0]; omega), e0, e3, b3]
    constructor
    · intro f h1 h2 h3
      have q1 : ¬ le (fp_bg fr to a).toNatClampNeg = 2147483647 := fun z => h2 (k1.mp z)
      have q2 : ¬ le (fp_en fr to a).toNatClampNeg = 2147483647 := fun z => h3 (k2.mp z)
      exact (main q1 q2).mp (f h1 q1 q2)
    · intro f h1 h2 h3
      exact (main h2 h3).mpr (f h1 (fun z => h2 (k1.mpr z)) (fun z => h3 (k2.mpr z)))
  unfold fq_ck rq_ck fq_cut fq_pot fq_pas fq_fit
  constructor
  · rintro ⟨-, c1, c2, ⟨c3, c4⟩, c5⟩
    refine ⟨⟨⟨fun e he => ⟨c1 e he, (hcue e he).mp (c3 e he)⟩, fun v hv => ?_⟩, fun a ha => (hpoa a ha).mp (c5 a ha)⟩, by rw [← hcap E (Nat.le_refl _)]; exact c4⟩
    unfold rq_pas
    rw [sur_eq h hb _ E (Nat.le_refl _)]
    exact c2 v hv
  · rintro ⟨⟨⟨c1, c2⟩, c5⟩, c4⟩
    refine ⟨hs, fun e he => (c1 e he).1, fun v hv => ?_, ⟨fun e he => (hcue e he).mpr (c1 e he).2, by rw [hcap E (Nat.le_refl _)]; exact c4⟩, fun a ha => (hpoa a ha).mpr (c5 a ha)⟩
    have := c2 v hv
    unfold rq_pas at this
    rw [sur_eq h hb _ E (Nat.le_refl _)] at this
    exact this
end
