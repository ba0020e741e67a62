/-- class's costs alone, from the source -/
abbrev pq_c (uc : Nat → Int32) (a : Nat) : Int := (fp_pr uc a).toInt
def sk_R (N : Nat) (t : Int) (le : Nat → Int32) (L : Nat → Option Int) : Prop := ∀ v, v < N → (L v = none ∧ le v = 2147483647) ∨ (L v = some (le v).toInt ∧ -(t * 10000) ≤ (le v).toInt ∧ (le v).toInt ≤ t * 10000)
theorem sk_mono {N : Nat} {t t' : Int} (ht : t ≤ t') {le : Nat → Int32} {L : Nat → Option Int} (hR : sk_R N t le L) : sk_R N t' le L := by
  intro v hv
  rcases hR v hv with q | ⟨q1, q2, q3⟩
  · exact Or.inl q
  · exact Or.inr ⟨q1, by omega, by omega⟩
theorem upd_id (f : Nat → Int32) (k : Nat) : upd f k (f k) = f := by
  funext j
  unfold upd
  split
  · rename_i q; rw [q]
  · rfl
theorem sk_step {fr to cap uc fl : Nat → Int32} {N E : Nat} (h : pq_net fr to cap uc N E) {a : Nat} (ha : a < 2 * E) {t : Int} (ht0 : 0 ≤ t) (ht : t ≤ 2000) {le fe : Nat → Int32} {ch : Int32} {L : Nat → Option Int} (hR : sk_R N t le L) :
    sk_R N (t + 1) (fp_rx false fr to cap uc fl a (le, fe, ch)).1 (bf_rx (pq_o cap fl) (pq_b fr to) (pq_e fr to) (pq_c uc) a L) := by
  have hmono : sk_R N (t + 1) le L := by
    intro v hv
    rcases hR v hv with q | ⟨q1, q2, q3⟩
    · exact Or.inl q
    · exact Or.inr ⟨q1, by omega, by omega⟩
  by_cases c1 : 0 < fp_lf cap fl a
  · have o1 : pq_o cap fl a = true := decide_eq_true c1
    have hn : pq_b fr to a < N := vp_lt (h.b ha)
    have hf : pq_e fr to a < N := vp_lt (h.e ha)
    obtain ⟨p1, p2⟩ := h.p ha
    rcases hR _ hn with ⟨n1, n2⟩ | ⟨n1, n2, n3⟩
    · rw [rx_b (bw := false) c1 n2, bf_rx_n n1]
      exact hmono
    · have nM : ¬ le (pq_b fr to a) = 2147483647 := by
        intro q; rw [q, i32_M] at n3; omega
      have e1 : (le (pq_b fr to a) + fp_pr uc a).toInt = (le (pq_b fr to a)).toInt + (fp_pr uc a).toInt := i32_add (by omega) (by omega)
      have er : (fp_rx false fr to cap uc fl a (le, fe, ch)).1 = fp_sle le fe (pq_e fr to a) (le (pq_b fr to a) + fp_pr uc a) (fe (pq_b fr to a) + 1) := by
        by_cases z : fp_sch le fe (pq_e fr to a) (le (pq_b fr to a) + fp_pr uc a) (fe (pq_b fr to a) + 1) = 0
        · rw [rx_c0 (bw := false) c1 nM z]; rfl
        · rw [rx_c1 (bw := false) c1 nM z]; rfl
      rw [er]
      have new : bf_lt ((le (pq_b fr to a)).toInt + pq_c uc a) (L (pq_e fr to a)) = true → fp_no le fe (pq_e fr to a) (le (pq_b fr to a) + fp_pr uc a) (fe (pq_b fr to a) + 1) = false → sk_R N (t + 1) (fp_sle le fe (pq_e fr to a) (le (pq_b fr to a) + fp_pr uc a) (fe (pq_b fr to a) + 1)) (bf_rx (pq_o cap fl) (pq_b fr to) (pq_e fr to) (pq_c uc) a L) := by
        intro k2 k1
        rw [sle_f k1, (bf_rx_t (nr := pq_b fr to) (fa := pq_e fr to) (w := pq_c uc) o1 n1 k2).1]
        intro v hv
        by_cases q : v = pq_e fr to a
        · rw [q, bset_s, upd_s, e1]
          exact Or.inr ⟨rfl, by omega, by omega⟩
        · rw [bset_n _ _ q, upd_n _ _ q]
          exact hmono v hv
      rcases hR _ hf with ⟨f1, f2⟩ | ⟨f1, f2, f3⟩
      · refine new (by rw [f1]; rfl) (no_3 ?_ ?_)
        · rw [f2, i32_lt, i32_M, e1]; omega
        · intro q
          have q2 : (le (pq_b fr to a) + fp_pr uc a).toInt = (2147483647 : Int32).toInt := by rw [q, f2]
          rw [e1, i32_M] at q2; omega
      · by_cases g1 : le (pq_e fr to a) < le (pq_b fr to a) + fp_pr uc a
        · rw [sle_t (no_1 g1), bf_rx_f n1 (by rw [f1]; rw [i32_lt, e1] at g1; exact decide_eq_false (by unfold pq_c; omega))]
          exact hmono
        · by_cases g2 : le (pq_b fr to a) + fp_pr uc a = le (pq_e fr to a)
          · have g3 : (le (pq_b fr to a)).toInt + (fp_pr uc a).toInt = (le (pq_e fr to a)).toInt := by rw [← e1, g2]
            rw [bf_rx_f n1 (by rw [f1]; exact decide_eq_false (by unfold pq_c; omega))]
            have : fp_sle le fe (pq_e fr to a) (le (pq_b fr to a) + fp_pr uc a) (fe (pq_b fr to a) + 1) = le := by
              unfold fp_sle
              split
              · rfl
              · rw [g2]; exact upd_id _ _
            rw [this]; exact hmono
          · have g3 : ¬ (le (pq_b fr to a)).toInt + (fp_pr uc a).toInt = (le (pq_e fr to a)).toInt := fun q => g2 (i32_inj (by rw [e1, q]))
            rw [i32_lt, e1] at g1
            refine new (by rw [f1]; exact decide_eq_true (by unfold pq_c; omega)) (no_3 (by rw [i32_lt, e1]; exact g1) g2)
  · have o0 : pq_o cap fl a = false := decide_eq_false c1
    rw [rx_a c1, bf_rx_0 o0]
    exact hmono
theorem sk_pass {fr to cap uc fl : Nat → Int32} {N E : Nat} (h : pq_net fr to cap uc N E) {t : Int} (ht0 : 0 ≤ t) (ht : t + 80 ≤ 2000) {le fe : Nat → Int32} {L : Nat → Option Int} (hR : sk_R N t le L) :
    ∀ n : Nat, n ≤ 2 * E → sk_R N (t + n) (fp_ps false fr to cap uc fl le fe n).1 (bf_ps (pq_o cap fl) (pq_b fr to) (pq_e fr to) (pq_c uc) L n)
  | 0, _ => by rw [show t + ((0 : Nat) : Int) = t by omega]; exact hR
  | n + 1, hn => by
    have i1 := sk_pass (fl := fl) h ht0 ht hR n (by omega) (fe := fe)
    have hE := h.2.2.1
    have st := sk_step (fl := fl) h (a := n) (by omega) (t := t + n) (by omega) (by omega) (fe := (fp_ps false fr to cap uc fl le fe n).2.1) (ch := (fp_ps false fr to cap uc fl le fe n).2.2) i1
    rw [show t + ((n + 1 : Nat) : Int) = t + n + 1 by omega]
    exact st
theorem sk_it {fr to cap uc fl : Nat → Int32} {N E : Nat} (h : pq_net fr to cap uc N E) {le fe : Nat → Int32} {L : Nat → Option Int} (hR : sk_R N 0 le L) : ∀ k : Nat, k ≤ 20 → sk_R N (80 * k) (fp_ic false fr to cap uc fl (2 * E) le fe k).1 (bf_it (pq_o cap fl) (pq_b fr to) (pq_e fr to) (pq_c uc) (2 * E) L k)
  | 0, _ => hR
  | k + 1, hk => by
    have hE := h.2.2.1
    have i := sk_pass (fl := fl) h (t := 80 * k) (by omega) (by omega) (sk_it (fl := fl) h hR k (by omega) (fe := fe)) (2 * E) (Nat.le_refl _) (fe := (fp_ic false fr to cap uc fl (2 * E) le fe k).2)
    exact sk_mono (by omega) i
/-- the reference's costs from the source -/
def sf_R (N : Nat) (t : Int) (hw : Nat → Int32) (ct : Nat → Int64) (L : Nat → Option Int) : Prop := ∀ v, v < N → (L v = none ∧ hw v = 0) ∨ (L v = some (ct v).toInt ∧ hw v = 1 ∧ -(t * 10000) ≤ (ct v).toInt ∧ (ct v).toInt ≤ t * 10000)
abbrev pq_of (fr to cap fl : Nat → Int32) (src : Int32) (a : Nat) : Bool := decide (0 < fp_lf cap fl a) && !decide (fp_en fr to a = src)
theorem sf_step {fr to cap uc fl : Nat → Int32} {N E : Nat} (h : pq_net fr to cap uc N E) (src : Int32) (a : Nat) (t : Int) (st : (Nat → Int32) × (Nat → Int64) × Int32) (L : Nat → Option Int) (ha : a < 2 * E) (ht0 : 0 ≤ t) (ht : t ≤ 2000) (hR : sf_R N t st.1 st.2.1 L) :
    sf_R N (t + 1) (fp_cx fr to cap uc fl src a st).1 (fp_cx fr to cap uc fl src a st).2.1 (bf_rx (pq_of fr to cap fl src) (pq_b fr to) (pq_e fr to) (pq_c uc) a L) ∧
    ((fp_cx fr to cap uc fl src a st = st ∧ bf_rx (pq_of fr to cap fl src) (pq_b fr to) (pq_e fr to) (pq_c uc) a L = L) ∨ ((fp_cx fr to cap uc fl src a st).2.2 = 1 ∧ ¬ bf_rx (pq_of fr to cap fl src) (pq_b fr to) (pq_e fr to) (pq_c uc) a L = L)) := by
  obtain ⟨hw, ct, ch⟩ := st
  dsimp only at hR
  have hmono : sf_R N (t + 1) hw ct L := by
    intro v hv
    rcases hR v hv with q | ⟨q1, q2, q3, q4⟩
    · exact Or.inl q
    · exact Or.inr ⟨q1, q2, by omega, by omega⟩
  have same : fp_cx fr to cap uc fl src a (hw, ct, ch) = (hw, ct, ch) → bf_rx (pq_of fr to cap fl src) (pq_b fr to) (pq_e fr to) (pq_c uc) a L = L → sf_R N (t + 1) (fp_cx fr to cap uc fl src a (hw, ct, ch)).1 (fp_cx fr to cap uc fl src a (hw, ct, ch)).2.1 (bf_rx (pq_of fr to cap fl src) (pq_b fr to) (pq_e fr to) (pq_c uc) a L) ∧ ((fp_cx fr to cap uc fl src a (hw, ct, ch) = (hw, ct, ch) ∧ bf_rx (pq_of fr to cap fl src) (pq_b fr to) (pq_e fr to) (pq_c uc) a L = L) ∨ ((fp_cx fr to cap uc fl src a (hw, ct, ch)).2.2 = 1 ∧ ¬ bf_rx (pq_of fr to cap fl src) (pq_b fr to) (pq_e fr to) (pq_c uc) a L = L)) := by
    intro e1 e2
    rw [e1, e2]
    exact ⟨hmono, Or.inl ⟨rfl, rfl⟩⟩
  by_cases c1 : fp_lf cap fl a ≤ 0
  · have o0 : pq_of fr to cap fl src a = false := by
      show (decide (0 < fp_lf cap fl a) && _) = false
      rw [decide_eq_false (i32_le0.mp c1)]; rfl
    exact same (cx_a c1) (bf_rx_0 o0)
  · have c1' : 0 < fp_lf cap fl a := Int32.not_le.mp c1
    have hn := vp_lt (h.b ha)
    have hf := vp_lt (h.e ha)
    obtain ⟨p1, p2⟩ := h.p ha
    rcases hR _ hn with ⟨n1, n2⟩ | ⟨n1, n2, n3, n4⟩
    · exact same (cx_b c1 n2) (bf_rx_n n1)
    · have n2' : ¬ hw (fp_bg fr to a).toNatClampNeg = 0 := by rw [n2]; decide
      by_cases c3 : fp_en fr to a = src
      · have o0 : pq_of fr to cap fl src a = false := by
          show (_ && !decide (fp_en fr to a = src)) = false
          rw [decide_eq_true c3]; simp
        exact same (cx_c c1 n2' c3) (bf_rx_0 o0)
      · have o1 : pq_of fr to cap fl src a = true := by
          show (decide (0 < fp_lf cap fl a) && !decide (fp_en fr to a = src)) = true
          rw [decide_eq_true c1', decide_eq_false c3]; rfl
        have e0 : (fp_pr uc a).toInt64.toInt = (fp_pr uc a).toInt := i32_64 _
        have e1 : (ct (fp_bg fr to a).toNatClampNeg + (fp_pr uc a).toInt64).toInt = (ct (fp_bg fr to a).toNatClampNeg).toInt + (fp_pr uc a).toInt := by rw [i64_add (by rw [e0]; omega) (by rw [e0]; omega), e0]
        by_cases k1 : hw (fp_en fr to a).toNatClampNeg = 0 ∨ ct (fp_bg fr to a).toNatClampNeg + (fp_pr uc a).toInt64 < ct (fp_en fr to a).toNatClampNeg
        · have k2 : bf_lt ((ct (fp_bg fr to a).toNatClampNeg).toInt + pq_c uc a) (L (pq_e fr to a)) = true := by
            rcases hR _ hf with ⟨f1, f2⟩ | ⟨f1, f2, f3, f4⟩
            · rw [f1]; rfl
            · rw [f1]
              rcases k1 with k1 | k1
              · rw [f2] at k1; exact absurd k1 (by decide)
              · rw [i64_lt, e1] at k1
                exact decide_eq_true (by unfold pq_c; omega)
          have er : fp_cx fr to cap uc fl src a (hw, ct, ch) = (upd hw (fp_en fr to a).toNatClampNeg 1, vp_updL ct (fp_en fr to a).toNatClampNeg (ct (fp_bg fr to a).toNatClampNeg + (fp_pr uc a).toInt64), 1) := by
            unfold fp_cx
            rw [if_neg c1, if_neg n2', if_neg c3, if_pos k1]
          obtain ⟨b1, b2⟩ := bf_rx_t (nr := pq_b fr to) (fa := pq_e fr to) (w := pq_c uc) o1 n1 k2
          refine ⟨?_, Or.inr ⟨by rw [er], b2⟩⟩
          rw [er, b1]
          intro v hv
          dsimp only
          by_cases q : v = pq_e fr to a
          · rw [q, bset_s, upd_s, updL_s, e1]
            exact Or.inr ⟨rfl, rfl, by omega, by omega⟩
          · rw [bset_n _ _ q, upd_n _ _ q, updL_n _ _ q]
            exact hmono v hv
        · have er : fp_cx fr to cap uc fl src a (hw, ct, ch) = (hw, ct, ch) := by
            unfold fp_cx
            rw [if_neg c1, if_neg n2', if_neg c3, if_neg k1]
          refine same er (bf_rx_f n1 ?_)
          rcases hR _ hf with ⟨f1, f2⟩ | ⟨f1, f2, f3, f4⟩
          · exact absurd (Or.inl f2) k1
          · rw [f1]
            have g1 : ¬ ct (fp_bg fr to a).toNatClampNeg + (fp_pr uc a).toInt64 < ct (fp_en fr to a).toNatClampNeg := fun z => k1 (Or.inr z)
            rw [i64_lt, e1] at g1
            exact decide_eq_false (by unfold pq_c; omega)
/-- the reference's look for a circle -/
def sh_R (N : Nat) (t : Int) (ct : Nat → Int64) (L : Nat → Option Int) : Prop := ∀ v, v < N → L v = some (ct v).toInt ∧ -(t * 10000) ≤ (ct v).toInt ∧ (ct v).toInt ≤ t * 10000
abbrev pq_oh (cap : Nat → Int32) (e : Nat) : Bool := decide (0 < cap e)
theorem sh_step {fr to cap uc : Nat → Int32} {N E : Nat} (h : pq_net fr to cap uc N E) (a : Nat) (t : Int) (st : (Nat → Int64) × Int32) (L : Nat → Option Int) (ha : a < E) (ht0 : 0 ≤ t) (ht : t ≤ 2000) (hR : sh_R N t st.1 L) :
    sh_R N (t + 1) (fp_hx fr to cap uc a st).1 (bf_rx (pq_oh cap) (fun e => (fr e).toNatClampNeg) (fun e => (to e).toNatClampNeg) (fun e => (uc e).toInt) a L) ∧
    ((fp_hx fr to cap uc a st = st ∧ bf_rx (pq_oh cap) (fun e => (fr e).toNatClampNeg) (fun e => (to e).toNatClampNeg) (fun e => (uc e).toInt) a L = L) ∨ ((fp_hx fr to cap uc a st).2 = 1 ∧ ¬ bf_rx (pq_oh cap) (fun e => (fr e).toNatClampNeg) (fun e => (to e).toNatClampNeg) (fun e => (uc e).toInt) a L = L)) := by
  obtain ⟨ct, ch⟩ := st
  dsimp only at hR
  have hmono : sh_R N (t + 1) ct L := by
    intro v hv
    obtain ⟨q1, q2, q3⟩ := hR v hv
    exact ⟨q1, by omega, by omega⟩
  obtain ⟨g1, g2, -, -, -, p1, p2⟩ := h.2.2.2 a ha
  have hn := hR _ (vp_lt g1)
  have hf := hR _ (vp_lt g2)
  by_cases c1 : cap a ≤ 0
  · have o0 : pq_oh cap a = false := decide_eq_false (i32_le0.mp c1)
    rw [hx_a c1, bf_rx_0 o0]
    exact ⟨hmono, Or.inl ⟨rfl, rfl⟩⟩
  · have o1 : pq_oh cap a = true := decide_eq_true (Int32.not_le.mp c1)
    have e0 : (uc a).toInt64.toInt = (uc a).toInt := i32_64 _
    have e1 : (ct (fr a).toNatClampNeg + (uc a).toInt64).toInt = (ct (fr a).toNatClampNeg).toInt + (uc a).toInt := by rw [i64_add (by rw [e0]; omega) (by rw [e0]; omega), e0]
    by_cases c2 : ct (to a).toNatClampNeg ≤ ct (fr a).toNatClampNeg + (uc a).toInt64
    · have k2 : bf_lt ((ct (fr a).toNatClampNeg).toInt + (uc a).toInt) (L (to a).toNatClampNeg) = false := by
        rw [hf.1]
        rw [i64_le, e1] at c2
        exact decide_eq_false (by omega)
      rw [hx_b c1 c2, bf_rx_f (nr := fun e => (fr e).toNatClampNeg) (fa := fun e => (to e).toNatClampNeg) (w := fun e => (uc e).toInt) hn.1 k2]
      exact ⟨hmono, Or.inl ⟨rfl, rfl⟩⟩
    · have k2 : bf_lt ((ct (fr a).toNatClampNeg).toInt + (uc a).toInt) (L (to a).toNatClampNeg) = true := by
        rw [hf.1]
        rw [i64_le, e1] at c2
        exact decide_eq_true (by omega)
      obtain ⟨b1, b2⟩ := bf_rx_t (nr := fun e => (fr e).toNatClampNeg) (fa := fun e => (to e).toNatClampNeg) (w := fun e => (uc e).toInt) o1 hn.1 k2
      refine ⟨?_, Or.inr ⟨by rw [hx_c c1 c2], b2⟩⟩
      rw [hx_c c1 c2, b1]
      intro v hv
      dsimp only
      by_cases q : v = (to a).toNatClampNeg
      · rw [q, bset_s, updL_s, e1]
        exact ⟨rfl, by omega, by omega⟩
      · rw [bset_n _ _ q, updL_n _ _ q]
        exact hmono v hv
theorem sh_mono {N : Nat} {t t' : Int} (ht : t ≤ t') {ct : Nat → Int64} {L : Nat → Option Int} (hR : sh_R N t ct L) : sh_R N t' ct L := by
  intro v hv
  obtain ⟨q1, q2, q3⟩ := hR v hv
  exact ⟨q1, by omega, by omega⟩
theorem sf_mono {N : Nat} {t t' : Int} (ht : t ≤ t') {hw : Nat → Int32} {ct : Nat → Int64} {L : Nat → Option Int} (hR : sf_R N t hw ct L) : sf_R N t' hw ct L := by
  intro v hv
  rcases hR v hv with q | ⟨q1, q2, q3, q4⟩
  · exact Or.inl q
  · exact Or.inr ⟨q1, q2, by omega, by omega⟩
theorem sr_mono {N : Nat} {t t' : Int} (ht : t ≤ t') {hw : Nat → Int32} {ct : Nat → Int64} {ta : Nat → Int32} {L : Nat → Option Int} (hR : sr_R N t hw ct ta L) : sr_R N t' hw ct ta L := by
  intro v hv
  rcases hR v hv with q | ⟨q1, q2, q3, q4, q5, q6⟩
  · exact Or.inl q
  · exact Or.inr ⟨q1, q2, by omega, by omega, q5, by omega⟩
