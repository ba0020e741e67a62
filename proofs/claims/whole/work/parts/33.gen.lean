section
variable {op : Nat → Bool} {nr fa : Nat → Nat} {w : Nat → Int} {A : Nat}
/-- passes of any kind over labels -/
theorem gp_pass {σ : Type} {stp : Nat → σ → σ} {flg : σ → Int32} {R : Int → σ → (Nat → Option Int) → Prop} (hA : A ≤ 80)
    (hs : ∀ a t st L, a < A → 0 ≤ t → t ≤ 2000 → R t st L → R (t + 1) (stp a st) (bf_rx op nr fa w a L) ∧ ((stp a st = st ∧ bf_rx op nr fa w a L = L) ∨ (flg (stp a st) = 1 ∧ ¬ bf_rx op nr fa w a L = L)))
    {P : Nat → σ} (hP : ∀ n, P (n + 1) = stp n (P n)) {t : Int} (ht0 : 0 ≤ t) (ht : t + 80 ≤ 2000) {L : Nat → Option Int} (hR : R t (P 0) L) :
    ∀ n : Nat, n ≤ A → R (t + n) (P n) (bf_ps op nr fa w L n) ∧ ((P n = P 0 ∧ ∀ a, a < n → bf_rx op nr fa w a L = L) ∨ (flg (P n) = 1 ∧ ∃ a, a < n ∧ ¬ bf_rx op nr fa w a (bf_ps op nr fa w L a) = bf_ps op nr fa w L a))
  | 0, _ => ⟨by rw [show t + ((0 : Nat) : Int) = t by omega]; exact hR, Or.inl ⟨rfl, fun a ha => absurd ha (Nat.not_lt_zero _)⟩⟩
  | n + 1, hn => by
    obtain ⟨i1, i2⟩ := gp_pass hA hs hP ht0 ht hR n (by omega)
    obtain ⟨s1, s2⟩ := hs n (t + n) (P n) _ (by omega) (by omega) (by omega) i1
    refine ⟨?_, ?_⟩
    · rw [show t + ((n + 1 : Nat) : Int) = t + n + 1 by omega, hP]
      exact s1
    · rcases s2 with ⟨s2, s3⟩ | ⟨s2, s3⟩
      · rcases i2 with ⟨i2, i3⟩ | ⟨i2, a, ha, i3⟩
        · refine Or.inl ⟨by rw [hP, s2, i2], fun a ha => ?_⟩
          rcases Nat.lt_or_ge a n with q | q
          · exact i3 a q
          · have hps : bf_ps op nr fa w L n = L := by
              have : ∀ m, m ≤ n → bf_ps op nr fa w L m = L := by
                intro m
                induction m with
                | zero => intro _; rfl
                | succ m ih => intro hm; rw [bf_ps, ih (by omega), i3 m (by omega)]
              exact this n (Nat.le_refl _)
            rw [hps] at s3
            rw [show a = n by omega]; exact s3
        · refine Or.inr ⟨by rw [hP, s2, i2], a, by omega, i3⟩
      · exact Or.inr ⟨by rw [hP, s2], n, by omega, s3⟩
theorem gp_fx {σ : Type} {stp : Nat → σ → σ} {flg : σ → Int32} {R : Int → σ → (Nat → Option Int) → Prop} (hA : A ≤ 80)
    (hs : ∀ a t st L, a < A → 0 ≤ t → t ≤ 2000 → R t st L → R (t + 1) (stp a st) (bf_rx op nr fa w a L) ∧ ((stp a st = st ∧ bf_rx op nr fa w a L = L) ∨ (flg (stp a st) = 1 ∧ ¬ bf_rx op nr fa w a L = L)))
    {P : Nat → σ} (hP : ∀ n, P (n + 1) = stp n (P n)) {t : Int} (ht0 : 0 ≤ t) (ht : t + 80 ≤ 2000) {L : Nat → Option Int} (hR : R t (P 0) L) (hF : bf_fx op nr fa w A L) : P A = P 0 := by
  rcases (gp_pass hA hs hP ht0 ht hR A (Nat.le_refl _)).2 with q | ⟨q, a, ha, hn⟩
  · exact q.1
  · exfalso
    apply hn
    rw [bf_ps_fx hF a (by omega)]
    have := bf_ps_fx hF (a + 1) (by omega)
    rw [bf_ps, bf_ps_fx hF a (by omega)] at this
    exact this
theorem gp_xf {σ : Type} {stp : Nat → σ → σ} {flg : σ → Int32} {R : Int → σ → (Nat → Option Int) → Prop} (hA : A ≤ 80)
    (hs : ∀ a t st L, a < A → 0 ≤ t → t ≤ 2000 → R t st L → R (t + 1) (stp a st) (bf_rx op nr fa w a L) ∧ ((stp a st = st ∧ bf_rx op nr fa w a L = L) ∨ (flg (stp a st) = 1 ∧ ¬ bf_rx op nr fa w a L = L)))
    {P : Nat → σ} (hP : ∀ n, P (n + 1) = stp n (P n)) {t : Int} (ht0 : 0 ≤ t) (ht : t + 80 ≤ 2000) {L : Nat → Option Int} (hR : R t (P 0) L) (h0 : ¬ flg (P A) = 1) : bf_fx op nr fa w A L := by
  rcases (gp_pass hA hs hP ht0 ht hR A (Nat.le_refl _)).2 with q | ⟨q, _⟩
  · intro a ha ho x hx
    have e := q.2 a ha
    have := bf_rx_arc (fa := fa) (w := w) ho hx
    rw [e] at this
    exact this
  · exact absurd q h0
/-- what a look from one root keeps -/
def bf_inv (op : Nat → Bool) (nr fa : Nat → Nat) (w : Nat → Int) (A : Nat) (pi : Nat → Int) (r : Nat) (L : Nat → Option Int) : Prop :=
  L r = some 0 ∧ (∀ v x, L v = some x → pi v - pi r ≤ x) ∧ (∀ v x, L v = some x → v = r ∨ ∃ a, a < A ∧ op a = true ∧ fa a = v ∧ ∃ y, L (nr a) = some y ∧ y + w a ≤ x)
theorem bf_inv_rx {pi : Nat → Int} {r : Nat} (hpi : ∀ a, a < A → op a = true → pi (fa a) ≤ pi (nr a) + w a) (hne : ∀ a, a < A → ¬ nr a = fa a) {a : Nat} (ha : a < A) {L : Nat → Option Int} (h : bf_inv op nr fa w A pi r L) :
    bf_inv op nr fa w A pi r (bf_rx op nr fa w a L) ∧ (fa a = r → bf_rx op nr fa w a L = L) := by
  obtain ⟨h1, h2, h3⟩ := h
  rcases bf_rx_cs (op := op) (nr := nr) (fa := fa) (w := w) a L with e | ⟨x, c1, c2, c3, e⟩
  · rw [e]; exact ⟨⟨h1, h2, h3⟩, fun _ => rfl⟩
  · have hx := h2 _ _ c2
    have hp := hpi a ha c1
    have hr : ¬ fa a = r := by
      intro q
      rw [q, h1] at c3
      have : x + w a < 0 := of_decide_eq_true c3
      rw [q] at hp
      omega
    rw [e]
    refine ⟨⟨?_, ?_, ?_⟩, fun q => absurd q hr⟩
    · rw [bset_n _ _ (fun q => hr q.symm)]; exact h1
    · intro v z hz
      by_cases q : v = fa a
      · rw [q, bset_s] at hz
        cases hz
        rw [q]; omega
      · rw [bset_n _ _ q] at hz; exact h2 v z hz
    · intro v z hz
      by_cases q : v = fa a
      · rw [q, bset_s] at hz
        cases hz
        refine Or.inr ⟨a, ha, c1, q.symm, x, ?_, Int.le_refl _⟩
        rw [bset_n _ _ (hne a ha)]; exact c2
      · rw [bset_n _ _ q] at hz
        rcases h3 v z hz with g | ⟨b, hb, g1, g2, y, g3, g4⟩
        · exact Or.inl g
        · refine Or.inr ⟨b, hb, g1, g2, ?_⟩
          by_cases q2 : nr b = fa a
          · refine ⟨x + w a, by rw [q2, bset_s], ?_⟩
            have := bf_lt_ol c3
            rw [← q2, g3, bf_ol_some] at this
            omega
          · exact ⟨y, by rw [bset_n _ _ q2]; exact g3, g4⟩
/-- the same arcs, but those into the root -/
theorem bf_gd {pi : Nat → Int} {r : Nat} {op' : Nat → Bool} (ho : ∀ a, a < A → (op' a = op a ∨ (fa a = r ∧ op' a = false))) (hpi : ∀ a, a < A → op a = true → pi (fa a) ≤ pi (nr a) + w a) (hne : ∀ a, a < A → ¬ nr a = fa a) {L : Nat → Option Int} (h : bf_inv op nr fa w A pi r L) :
    ∀ n, n ≤ A → bf_inv op nr fa w A pi r (bf_ps op nr fa w L n) ∧ bf_ps op' nr fa w L n = bf_ps op nr fa w L n
  | 0, _ => ⟨h, rfl⟩
  | n + 1, hn => by
    obtain ⟨i1, i2⟩ := bf_gd ho hpi hne h n (by omega)
    obtain ⟨s1, s2⟩ := bf_inv_rx hpi hne (a := n) (by omega) i1
    refine ⟨s1, ?_⟩
    rw [bf_ps, bf_ps, i2]
    rcases ho n (by omega) with q | ⟨q1, q2⟩
    · unfold bf_rx; rw [q]
    · rw [s2 q1, bf_rx_0 q2]
theorem bf_gi {pi : Nat → Int} {r : Nat} {op' : Nat → Bool} (ho : ∀ a, a < A → (op' a = op a ∨ (fa a = r ∧ op' a = false))) (hpi : ∀ a, a < A → op a = true → pi (fa a) ≤ pi (nr a) + w a) (hne : ∀ a, a < A → ¬ nr a = fa a) {L : Nat → Option Int} (h : bf_inv op nr fa w A pi r L) :
    ∀ k, bf_inv op nr fa w A pi r (bf_it op nr fa w A L k) ∧ bf_it op' nr fa w A L k = bf_it op nr fa w A L k
  | 0 => ⟨h, rfl⟩
  | k + 1 => by
    obtain ⟨i1, i2⟩ := bf_gi ho hpi hne h k
    obtain ⟨s1, s2⟩ := bf_gd ho hpi hne i1 A (Nat.le_refl _)
    exact ⟨s1, by rw [bf_it, bf_it, i2, s2]⟩
/-- the first labels of a look from one root -/
def bf_L0 (r : Nat) : Nat → Option Int := fun v => if v = r then some 0 else none
theorem bf_L0_inv (pi : Nat → Int) (r : Nat) : bf_inv op nr fa w A pi r (bf_L0 r) := by
  refine ⟨by unfold bf_L0; rw [if_pos rfl], ?_, ?_⟩
  · intro v x hx
    unfold bf_L0 at hx
    split at hx
    · rename_i q; cases hx; rw [q]; omega
    · cases hx
  · intro v x hx
    unfold bf_L0 at hx
    split at hx
    · rename_i q; exact Or.inl q
    · cases hx
/-- all labels that are there keep being there -/
theorem bf_it_some {L0 : Nat → Option Int} {v : Nat} {x : Int} (h : L0 v = some x) : ∀ k, ∃ y, bf_it op nr fa w A L0 k v = some y
  | 0 => ⟨x, h⟩
  | k + 1 => by
    obtain ⟨y, hy⟩ := bf_it_some h k
    obtain ⟨z, hz, _⟩ := bf_ps_le (op := op) (nr := nr) (fa := fa) (w := w) (bf_it op nr fa w A L0 k) v A y hy
    exact ⟨z, hz⟩
end
/-- the reference's labels to the sink -/
def sr_R (N : Nat) (t : Int) (hw : Nat → Int32) (ct : Nat → Int64) (ta : Nat → Int32) (L : Nat → Option Int) : Prop := ∀ v, v < N → (L v = none ∧ hw v = 0 ∧ ct v = 0 ∧ ta v = 0) ∨ (L v = some ((ct v).toInt * 1000000 + (ta v).toInt) ∧ hw v = 1 ∧ -(t * 10000) ≤ (ct v).toInt ∧ (ct v).toInt ≤ t * 10000 ∧ 0 ≤ (ta v).toInt ∧ (ta v).toInt ≤ t)
abbrev pq_os (fr to cap fl : Nat → Int32) (snk : Int32) (a : Nat) : Bool := decide (0 < fp_lf cap fl a) && !decide (fp_bg fr to a = snk)
theorem i32_le0 {x : Int32} : x ≤ 0 ↔ ¬ 0 < x := Int32.not_lt.symm
theorem sr_step {fr to cap uc fl : Nat → Int32} {N E : Nat} (h : pq_net fr to cap uc N E) (snk : Int32) (a : Nat) (t : Int) (st : (Nat → Int32) × (Nat → Int64) × (Nat → Int32) × Int32) (L : Nat → Option Int) (ha : a < 2 * E) (ht0 : 0 ≤ t) (ht : t ≤ 2000) (hR : sr_R N t st.1 st.2.1 st.2.2.1 L) :
    sr_R N (t + 1) (fp_wx fr to cap uc fl snk a st).1 (fp_wx fr to cap uc fl snk a st).2.1 (fp_wx fr to cap uc fl snk a st).2.2.1 (bf_rx (pq_os fr to cap fl snk) (pq_e fr to) (pq_b fr to) (pq_w uc) a L) ∧
    ((fp_wx fr to cap uc fl snk a st = st ∧ bf_rx (pq_os fr to cap fl snk) (pq_e fr to) (pq_b fr to) (pq_w uc) a L = L) ∨ ((fp_wx fr to cap uc fl snk a st).2.2.2 = 1 ∧ ¬ bf_rx (pq_os fr to cap fl snk) (pq_e fr to) (pq_b fr to) (pq_w uc) a L = L)) := by
  obtain ⟨hw, ct, ta, ch⟩ := st
  dsimp only at hR
  have hmono : sr_R N (t + 1) hw ct ta L := by
    intro v hv
    rcases hR v hv with q | ⟨q1, q2, q3, q4, q5, q6⟩
    · exact Or.inl q
    · exact Or.inr ⟨q1, q2, by omega, by omega, q5, by omega⟩
  have same : fp_wx fr to cap uc fl snk a (hw, ct, ta, ch) = (hw, ct, ta, ch) → bf_rx (pq_os fr to cap fl snk) (pq_e fr to) (pq_b fr to) (pq_w uc) a L = L → sr_R N (t + 1) (fp_wx fr to cap uc fl snk a (hw, ct, ta, ch)).1 (fp_wx fr to cap uc fl snk a (hw, ct, ta, ch)).2.1 (fp_wx fr to cap uc fl snk a (hw, ct, ta, ch)).2.2.1 (bf_rx (pq_os fr to cap fl snk) (pq_e fr to) (pq_b fr to) (pq_w uc) a L) ∧ ((fp_wx fr to cap uc fl snk a (hw, ct, ta, ch) = (hw, ct, ta, ch) ∧ bf_rx (pq_os fr to cap fl snk) (pq_e fr to) (pq_b fr to) (pq_w uc) a L = L) ∨ ((fp_wx fr to cap uc fl snk a (hw, ct, ta, ch)).2.2.2 = 1 ∧ ¬ bf_rx (pq_os fr to cap fl snk) (pq_e fr to) (pq_b fr to) (pq_w uc) a L = L)) := by
    intro e1 e2
    rw [e1, e2]
    exact ⟨hmono, Or.inl ⟨rfl, rfl⟩⟩
  by_cases c1 : fp_lf cap fl a ≤ 0
  · have o0 : pq_os fr to cap fl snk a = false := by
      show (decide (0 < fp_lf cap fl a) && _) = false
      rw [decide_eq_false (i32_le0.mp c1)]; rfl
    exact same (wx_a c1) (bf_rx_0 o0)
  · have c1' : 0 < fp_lf cap fl a := Int32.not_le.mp c1
    have hn := vp_lt (h.e ha)
    have hf := vp_lt (h.b ha)
    obtain ⟨p1, p2⟩ := h.p ha
    rcases hR _ hn with ⟨n1, n2, n3, n4⟩ | ⟨n1, n2, n3, n4, n5, n6⟩
    · exact same (wx_b c1 n2) (bf_rx_n n1)
    · have n2' : ¬ hw (fp_en fr to a).toNatClampNeg = 0 := by rw [n2]; decide
      by_cases c3 : fp_bg fr to a = snk
      · have o0 : pq_os fr to cap fl snk a = false := by
          show (_ && !decide (fp_bg fr to a = snk)) = false
          rw [decide_eq_true c3]; simp
        exact same (wx_c c1 n2' c3) (bf_rx_0 o0)
      · have o1 : pq_os fr to cap fl snk a = true := by
          show (decide (0 < fp_lf cap fl a) && !decide (fp_bg fr to a = snk)) = true
          rw [decide_eq_true c1', decide_eq_false c3]; rfl
        have e0 : (fp_pr uc a).toInt64.toInt = (fp_pr uc a).toInt := i32_64 _
        have e1 : (ct (fp_en fr to a).toNatClampNeg + (fp_pr uc a).toInt64).toInt = (ct (fp_en fr to a).toNatClampNeg).toInt + (fp_pr uc a).toInt := by rw [i64_add (by rw [e0]; omega) (by rw [e0]; omega), e0]
        have e2 : (ta (fp_en fr to a).toNatClampNeg + 1).toInt = (ta (fp_en fr to a).toNatClampNeg).toInt + 1 := by rw [i32_add (by rw [i32_1]; omega) (by rw [i32_1]; omega), i32_1]
        have upd_case : (hw (fp_bg fr to a).toNatClampNeg = 0 ∨ ct (fp_en fr to a).toNatClampNeg + (fp_pr uc a).toInt64 < ct (fp_bg fr to a).toNatClampNeg ∨ (ct (fp_en fr to a).toNatClampNeg + (fp_pr uc a).toInt64 = ct (fp_bg fr to a).toNatClampNeg ∧ ta (fp_en fr to a).toNatClampNeg + 1 < ta (fp_bg fr to a).toNatClampNeg)) → bf_lt ((ct (fp_en fr to a).toNatClampNeg).toInt * 1000000 + (ta (fp_en fr to a).toNatClampNeg).toInt + pq_w uc a) (L (pq_b fr to a)) = true → sr_R N (t + 1) (fp_wx fr to cap uc fl snk a (hw, ct, ta, ch)).1 (fp_wx fr to cap uc fl snk a (hw, ct, ta, ch)).2.1 (fp_wx fr to cap uc fl snk a (hw, ct, ta, ch)).2.2.1 (bf_rx (pq_os fr to cap fl snk) (pq_e fr to) (pq_b fr to) (pq_w uc) a L) ∧ ((fp_wx fr to cap uc fl snk a (hw, ct, ta, ch) = (hw, ct, ta, ch) ∧ bf_rx (pq_os fr to cap fl snk) (pq_e fr to) (pq_b fr to) (pq_w uc) a L = L) ∨ ((fp_wx fr to cap uc fl snk a (hw, ct, ta, ch)).2.2.2 = 1 ∧ ¬ bf_rx (pq_os fr to cap fl snk) (pq_e fr to) (pq_b fr to) (pq_w uc) a L = L)) := by
          intro k1 k2
          have er : fp_wx fr to cap uc fl snk a (hw, ct, ta, ch) = (upd hw (fp_bg fr to a).toNatClampNeg 1, vp_updL ct (fp_bg fr to a).toNatClampNeg (ct (fp_en fr to a).toNatClampNeg + (fp_pr uc a).toInt64), upd ta (fp_bg fr to a).toNatClampNeg (ta (fp_en fr to a).toNatClampNeg + 1), 1) := by
            unfold fp_wx
            rw [if_neg c1, if_neg n2', if_neg c3, if_pos k1]
          obtain ⟨b1, b2⟩ := bf_rx_t (nr := pq_e fr to) (fa := pq_b fr to) (w := pq_w uc) o1 n1 k2
          refine ⟨?_, Or.inr ⟨by rw [er], b2⟩⟩
          rw [er, b1]
          intro v hv
          dsimp only
          by_cases q : v = pq_b fr to a
          · rw [q, bset_s, upd_s, updL_s, upd_s, e1, e2]
            refine Or.inr ⟨?_, rfl, by omega, by omega, by omega, by omega⟩
            unfold pq_w
            congr 1
            omega
          · rw [bset_n _ _ q, upd_n _ _ q, updL_n _ _ q, upd_n _ _ q]
            exact hmono v hv
        have keep_case : ¬ (hw (fp_bg fr to a).toNatClampNeg = 0 ∨ ct (fp_en fr to a).toNatClampNeg + (fp_pr uc a).toInt64 < ct (fp_bg fr to a).toNatClampNeg ∨ (ct (fp_en fr to a).toNatClampNeg + (fp_pr uc a).toInt64 = ct (fp_bg fr to a).toNatClampNeg ∧ ta (fp_en fr to a).toNatClampNeg + 1 < ta (fp_bg fr to a).toNatClampNeg)) → fp_wx fr to cap uc fl snk a (hw, ct, ta, ch) = (hw, ct, ta, ch) := by
          intro k1
          unfold fp_wx
          rw [if_neg c1, if_neg n2', if_neg c3, if_neg k1]
        rcases hR _ hf with ⟨f1, f2, f3, f4⟩ | ⟨f1, f2, f3, f4, f5, f6⟩
        · exact upd_case (Or.inl f2) (by rw [f1]; rfl)
        · have f2' : ¬ hw (fp_bg fr to a).toNatClampNeg = 0 := by rw [f2]; decide
          by_cases g1 : ct (fp_en fr to a).toNatClampNeg + (fp_pr uc a).toInt64 < ct (fp_bg fr to a).toNatClampNeg
          · refine upd_case (Or.inr (Or.inl g1)) ?_
            rw [f1]
            rw [i64_lt, e1] at g1
            exact decide_eq_true (by unfold pq_w; omega)
          · by_cases g2 : ct (fp_en fr to a).toNatClampNeg + (fp_pr uc a).toInt64 = ct (fp_bg fr to a).toNatClampNeg
            · have g3 : (ct (fp_en fr to a).toNatClampNeg).toInt + (fp_pr uc a).toInt = (ct (fp_bg fr to a).toNatClampNeg).toInt := by rw [← e1, g2]
              by_cases g4 : ta (fp_en fr to a).toNatClampNeg + 1 < ta (fp_bg fr to a).toNatClampNeg
              · refine upd_case (Or.inr (Or.inr ⟨g2, g4⟩)) ?_
                rw [f1]
                rw [i32_lt, e2] at g4
                exact decide_eq_true (by unfold pq_w; omega)
              · refine same (keep_case ?_) (bf_rx_f n1 ?_)
                · rintro (z | z | z)
                  · exact f2' z
                  · exact g1 z
                  · exact g4 z.2
                · rw [f1]
                  rw [i32_lt, e2] at g4
                  exact decide_eq_false (by unfold pq_w; omega)
            · refine same (keep_case ?_) (bf_rx_f n1 ?_)
              · rintro (z | z | z)
                · exact f2' z
                · exact g1 z
                · exact g2 z.1
              · rw [f1]
                rw [i64_lt, e1] at g1
                have g3 : ¬ (ct (fp_en fr to a).toNatClampNeg).toInt + (fp_pr uc a).toInt = (ct (fp_bg fr to a).toNatClampNeg).toInt := fun q => g2 (i64_inj (by rw [e1, q]))
                exact decide_eq_false (by unfold pq_w; omega)
