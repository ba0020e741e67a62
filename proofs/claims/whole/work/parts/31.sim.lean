theorem i32_b (a : Int32) : -2147483648 ≤ a.toInt ∧ a.toInt ≤ 2147483647 := by
  have h1 := Int32.le_toInt a
  have h2 := Int32.toInt_lt a
  omega
theorem i32_add {a b : Int32} (h1 : -2147483648 ≤ a.toInt + b.toInt) (h2 : a.toInt + b.toInt ≤ 2147483647) : (a + b).toInt = a.toInt + b.toInt := by
  rw [Int32.toInt_add]
  exact Int.bmod_eq_of_le (by omega) (by omega)
theorem i32_sub {a b : Int32} (h1 : -2147483648 ≤ a.toInt - b.toInt) (h2 : a.toInt - b.toInt ≤ 2147483647) : (a - b).toInt = a.toInt - b.toInt := by
  rw [Int32.toInt_sub]
  exact Int.bmod_eq_of_le (by omega) (by omega)
theorem i32_neg {a : Int32} (h : -2147483647 ≤ a.toInt) : (-a).toInt = -a.toInt := by
  have hb := i32_b a
  rw [Int32.toInt_neg]
  exact Int.bmod_eq_of_le (by omega) (by omega)
theorem i64_add {a b : Int64} (h1 : -9000000000000000000 ≤ a.toInt + b.toInt) (h2 : a.toInt + b.toInt ≤ 9000000000000000000) : (a + b).toInt = a.toInt + b.toInt := by
  rw [Int64.toInt_add]
  exact Int.bmod_eq_of_le (by omega) (by omega)
theorem i32_inj {a b : Int32} (h : a.toInt = b.toInt) : a = b := Int32.toInt_inj.mp h
theorem i64_inj {a b : Int64} (h : a.toInt = b.toInt) : a = b := Int64.toInt_inj.mp h
theorem i32_lt {a b : Int32} : a < b ↔ a.toInt < b.toInt := Int32.lt_iff_toInt_lt
theorem i32_le {a b : Int32} : a ≤ b ↔ a.toInt ≤ b.toInt := Int32.le_iff_toInt_le
theorem i64_lt {a b : Int64} : a < b ↔ a.toInt < b.toInt := Int64.lt_iff_toInt_lt
theorem i64_le {a b : Int64} : a ≤ b ↔ a.toInt ≤ b.toInt := Int64.le_iff_toInt_le
theorem i32_64 (a : Int32) : a.toInt64.toInt = a.toInt := Int32.toInt_toInt64 a
theorem i32_M : (2147483647 : Int32).toInt = 2147483647 := by decide
theorem i32_0 : (0 : Int32).toInt = 0 := by decide
theorem i32_1 : (1 : Int32).toInt = 1 := by decide
theorem i64_0 : (0 : Int64).toInt = 0 := by decide
theorem upd_s (f : Nat → Int32) (k : Nat) (x : Int32) : upd f k x k = x := by unfold upd; rw [if_pos rfl]
theorem upd_n (f : Nat → Int32) {k j : Nat} (x : Int32) (h : ¬ j = k) : upd f k x j = f j := by unfold upd; rw [if_neg h]
theorem updL_s (f : Nat → Int64) (k : Nat) (x : Int64) : vp_updL f k x k = x := by unfold vp_updL; rw [if_pos rfl]
theorem updL_n (f : Nat → Int64) {k j : Nat} (x : Int64) (h : ¬ j = k) : vp_updL f k x j = f j := by unfold vp_updL; rw [if_neg h]
theorem bset_s (L : Nat → Option Int) (k : Nat) (x : Int) : bf_set L k x k = some x := by unfold bf_set; rw [if_pos rfl]
theorem bset_n (L : Nat → Option Int) {k j : Nat} (x : Int) (h : ¬ j = k) : bf_set L k x j = L j := by unfold bf_set; rw [if_neg h]
section
variable {op : Nat → Bool} {nr fa : Nat → Nat} {w : Nat → Int} {A : Nat}
theorem bf_rx_0 {a : Nat} {L : Nat → Option Int} (h : op a = false) : bf_rx op nr fa w a L = L := by unfold bf_rx; rw [if_neg (by rw [h]; decide)]
theorem bf_rx_n {a : Nat} {L : Nat → Option Int} (h : L (nr a) = none) : bf_rx op nr fa w a L = L := by
  unfold bf_rx
  split
  · rw [h]
  · rfl
theorem bf_rx_f {a : Nat} {L : Nat → Option Int} {x : Int} (h : L (nr a) = some x) (h2 : bf_lt (x + w a) (L (fa a)) = false) : bf_rx op nr fa w a L = L := by
  unfold bf_rx
  split
  · rw [h]; dsimp only; rw [if_neg (by rw [h2]; decide)]
  · rfl
theorem bf_rx_t {a : Nat} {L : Nat → Option Int} {x : Int} (h0 : op a = true) (h : L (nr a) = some x) (h2 : bf_lt (x + w a) (L (fa a)) = true) : bf_rx op nr fa w a L = bf_set L (fa a) (x + w a) ∧ ¬ bf_rx op nr fa w a L = L := by
  have e : bf_rx op nr fa w a L = bf_set L (fa a) (x + w a) := by
    unfold bf_rx
    rw [if_pos h0, h]; dsimp only; rw [if_pos h2]
  refine ⟨e, fun q => ?_⟩
  rw [e] at q
  have q2 := congrFun q (fa a)
  rw [bset_s] at q2
  rw [← q2] at h2
  have : x + w a < x + w a := of_decide_eq_true h2
  omega
end
/-- the net, as the promises of edge keep it -/
def pq_net (fr to cap uc : Nat → Int32) (N E : Nat) : Prop := 2 ≤ N ∧ N ≤ 12 ∧ E ≤ 40 ∧ ∀ e, e < E → vp_in (fr e) N ∧ vp_in (to e) N ∧ ¬ fr e = to e ∧ 0 ≤ (cap e).toInt ∧ (cap e).toInt ≤ 1000000 ∧ -10000 ≤ (uc e).toInt ∧ (uc e).toInt ≤ 10000
abbrev pq_b (fr to : Nat → Int32) (a : Nat) : Nat := (fp_bg fr to a).toNatClampNeg
abbrev pq_e (fr to : Nat → Int32) (a : Nat) : Nat := (fp_en fr to a).toNatClampNeg
theorem vp_lt {x : Int32} {N : Nat} (h : vp_in x N) : x.toNatClampNeg < N := Nat.not_le.mp fun q => h (Or.inr q)
theorem vp_eq {x y : Int32} {N : Nat} (hN : N ≤ 12) (hx : vp_in x N) (hy : vp_in y N) (h : x.toNatClampNeg = y.toNatClampNeg) : x = y := by
  obtain ⟨i, hi, rfl⟩ := vp_in_of hx (by omega)
  obtain ⟨j, hj, rfl⟩ := vp_in_of hy (by omega)
  rw [nI_clamp (by omega), nI_clamp (by omega)] at h
  rw [h]
section
variable {fr to cap uc : Nat → Int32} {N E : Nat}
theorem pq_net.b (h : pq_net fr to cap uc N E) {a : Nat} (ha : a < 2 * E) : vp_in (fp_bg fr to a) N := bg_in (fun e he => (h.2.2.2 e he).1) (fun e he => (h.2.2.2 e he).2.1) ha
theorem pq_net.e (h : pq_net fr to cap uc N E) {a : Nat} (ha : a < 2 * E) : vp_in (fp_en fr to a) N := en_in (fun e he => (h.2.2.2 e he).1) (fun e he => (h.2.2.2 e he).2.1) ha
theorem pq_net.ne (h : pq_net fr to cap uc N E) {a : Nat} (ha : a < 2 * E) : ¬ pq_b fr to a = pq_e fr to a := by
  intro q
  have q2 := vp_eq h.2.1 (h.b ha) (h.e ha) q
  have h3 := (h.2.2.2 (a / 2) (by omega)).2.2.1
  unfold fp_bg fp_en at q2
  split at q2
  · exact h3 q2
  · exact h3 q2.symm
theorem pq_net.p (h : pq_net fr to cap uc N E) {a : Nat} (ha : a < 2 * E) : -10000 ≤ (fp_pr uc a).toInt ∧ (fp_pr uc a).toInt ≤ 10000 := by
  obtain ⟨-, -, -, -, -, h6, h7⟩ := h.2.2.2 (a / 2) (by omega)
  unfold fp_pr
  split
  · exact ⟨h6, h7⟩
  · rw [i32_neg (by omega)]; omega
end
/-- class's labels (cost, arcs) as one number -/
def sc_R (N : Nat) (t : Int) (le fe : Nat → Int32) (L : Nat → Option Int) : Prop := ∀ v, v < N → (L v = none ∧ le v = 2147483647 ∧ fe v = 0) ∨ (L v = some ((le v).toInt * 1000000 + (fe v).toInt) ∧ -(t * 10000) ≤ (le v).toInt ∧ (le v).toInt ≤ t * 10000 ∧ 0 ≤ (fe v).toInt ∧ (fe v).toInt ≤ t)
abbrev pq_o (cap fl : Nat → Int32) (a : Nat) : Bool := decide (0 < fp_lf cap fl a)
abbrev pq_w (uc : Nat → Int32) (a : Nat) : Int := (fp_pr uc a).toInt * 1000000 + 1
abbrev pq_n (bw : Bool) (fr to : Nat → Int32) (a : Nat) : Nat := (fp_nr bw fr to a).toNatClampNeg
theorem pq_n_lt {fr to cap uc : Nat → Int32} {N E : Nat} (h : pq_net fr to cap uc N E) {a : Nat} (ha : a < 2 * E) (bw : Bool) : pq_n bw fr to a < N := by
  cases bw
  · exact vp_lt (h.b ha)
  · exact vp_lt (h.e ha)
theorem sc_step {fr to cap uc fl : Nat → Int32} {N E : Nat} (h : pq_net fr to cap uc N E) (bw : Bool) {a : Nat} (ha : a < 2 * E) {t : Int} (ht0 : 0 ≤ t) (ht : t ≤ 2000) {le fe : Nat → Int32} {ch : Int32} {L : Nat → Option Int} (hR : sc_R N t le fe L) :
    sc_R N (t + 1) (fp_rx bw fr to cap uc fl a (le, fe, ch)).1 (fp_rx bw fr to cap uc fl a (le, fe, ch)).2.1 (bf_rx (pq_o cap fl) (pq_n bw fr to) (pq_n (!bw) fr to) (pq_w uc) a L) ∧
    ((fp_rx bw fr to cap uc fl a (le, fe, ch) = (le, fe, ch) ∧ bf_rx (pq_o cap fl) (pq_n bw fr to) (pq_n (!bw) fr to) (pq_w uc) a L = L) ∨ ((fp_rx bw fr to cap uc fl a (le, fe, ch)).2.2 = 1 ∧ ¬ bf_rx (pq_o cap fl) (pq_n bw fr to) (pq_n (!bw) fr to) (pq_w uc) a L = L)) := by
  have hmono : sc_R N (t + 1) le fe L := by
    intro v hv
    rcases hR v hv with q | ⟨q1, q2, q3, q4, q5⟩
    · exact Or.inl q
    · exact Or.inr ⟨q1, by omega, by omega, q4, by omega⟩
  by_cases c1 : 0 < fp_lf cap fl a
  · have o1 : pq_o cap fl a = true := decide_eq_true c1
    have hn := pq_n_lt h ha bw
    have hf := pq_n_lt h ha (!bw)
    obtain ⟨p1, p2⟩ := h.p ha
    rcases hR _ hn with ⟨n1, n2, n3⟩ | ⟨n1, n2, n3, n4, n5⟩
    · rw [rx_b c1 n2, bf_rx_n n1]
      exact ⟨hmono, Or.inl ⟨rfl, rfl⟩⟩
    · have nM : ¬ le (pq_n bw fr to a) = 2147483647 := by
        intro q; rw [q, i32_M] at n3; omega
      have e1 : (le (pq_n bw fr to a) + fp_pr uc a).toInt = (le (pq_n bw fr to a)).toInt + (fp_pr uc a).toInt := i32_add (by omega) (by omega)
      have e2 : (fe (pq_n bw fr to a) + 1).toInt = (fe (pq_n bw fr to a)).toInt + 1 := by rw [i32_add (by rw [i32_1]; omega) (by rw [i32_1]; omega), i32_1]
      have key : (fp_no le fe (pq_n (!bw) fr to a) (le (pq_n bw fr to a) + fp_pr uc a) (fe (pq_n bw fr to a) + 1) = true ∧ bf_lt ((le (pq_n bw fr to a)).toInt * 1000000 + (fe (pq_n bw fr to a)).toInt + pq_w uc a) (L (pq_n (!bw) fr to a)) = false) ∨ (fp_no le fe (pq_n (!bw) fr to a) (le (pq_n bw fr to a) + fp_pr uc a) (fe (pq_n bw fr to a) + 1) = false ∧ bf_lt ((le (pq_n bw fr to a)).toInt * 1000000 + (fe (pq_n bw fr to a)).toInt + pq_w uc a) (L (pq_n (!bw) fr to a)) = true) := by
        rcases hR _ hf with ⟨f1, f2, f3⟩ | ⟨f1, f2, f3, f4, f5⟩
        · refine Or.inr ⟨no_3 ?_ ?_, by rw [f1]; rfl⟩
          · rw [f2, i32_lt, i32_M, e1]; omega
          · intro q
            have q2 : (le (pq_n bw fr to a) + fp_pr uc a).toInt = (2147483647 : Int32).toInt := by rw [q, f2]
            rw [e1, i32_M] at q2; omega
        · by_cases g1 : le (pq_n (!bw) fr to a) < le (pq_n bw fr to a) + fp_pr uc a
          · refine Or.inl ⟨no_1 g1, ?_⟩
            rw [f1]
            rw [i32_lt, e1] at g1
            exact decide_eq_false (by unfold pq_w; omega)
          · by_cases g2 : le (pq_n bw fr to a) + fp_pr uc a = le (pq_n (!bw) fr to a)
            · have g3 : (le (pq_n bw fr to a)).toInt + (fp_pr uc a).toInt = (le (pq_n (!bw) fr to a)).toInt := by rw [← e1, g2]
              by_cases g4 : fe (pq_n bw fr to a) + 1 < fe (pq_n (!bw) fr to a)
              · refine Or.inr ⟨no_4 g1 g4, ?_⟩
                rw [f1]
                rw [i32_lt, e2] at g4
                exact decide_eq_true (by unfold pq_w; omega)
              · refine Or.inl ⟨no_2 g2 g4, ?_⟩
                rw [f1]
                rw [i32_lt, e2] at g4
                exact decide_eq_false (by unfold pq_w; omega)
            · refine Or.inr ⟨no_3 g1 g2, ?_⟩
              rw [f1]
              rw [i32_lt, e1] at g1
              have g3 : ¬ (le (pq_n bw fr to a)).toInt + (fp_pr uc a).toInt = (le (pq_n (!bw) fr to a)).toInt := fun q => g2 (i32_inj (by rw [e1, q]))
              exact decide_eq_true (by unfold pq_w; omega)
      rcases key with ⟨k1, k2⟩ | ⟨k1, k2⟩
      · have er : fp_rx bw fr to cap uc fl a (le, fe, ch) = (le, fe, ch) := by
          rw [rx_c0 c1 nM (sch_t k1), sle_t k1, sfe_t k1]
        rw [er, bf_rx_f n1 k2]
        exact ⟨hmono, Or.inl ⟨rfl, rfl⟩⟩
      · have er : fp_rx bw fr to cap uc fl a (le, fe, ch) = (upd le (pq_n (!bw) fr to a) (le (pq_n bw fr to a) + fp_pr uc a), upd fe (pq_n (!bw) fr to a) (fe (pq_n bw fr to a) + 1), 1) := by
          rw [rx_c1 c1 nM (by rw [sch_f k1]; decide), sle_f k1, sfe_f k1]
        obtain ⟨b1, b2⟩ := bf_rx_t (fa := pq_n (!bw) fr to) (w := pq_w uc) o1 n1 k2
        refine ⟨?_, Or.inr ⟨by rw [er], b2⟩⟩
        rw [er, b1]
        intro v hv
        dsimp only
        by_cases q : v = pq_n (!bw) fr to a
        · rw [q, bset_s, upd_s, upd_s, e1, e2]
          refine Or.inr ⟨?_, by omega, by omega, by omega, by omega⟩
          unfold pq_w
          congr 1
          omega
        · rw [bset_n _ _ q, upd_n _ _ q, upd_n _ _ q]
          exact hmono v hv
  · have o0 : pq_o cap fl a = false := decide_eq_false c1
    rw [rx_a c1, bf_rx_0 o0]
    exact ⟨hmono, Or.inl ⟨rfl, rfl⟩⟩
/-- a pass -/
theorem sc_pass {fr to cap uc fl : Nat → Int32} {N E : Nat} (h : pq_net fr to cap uc N E) (bw : Bool) {t : Int} (ht0 : 0 ≤ t) (ht : t + 80 ≤ 2000) {le fe : Nat → Int32} {L : Nat → Option Int} (hR : sc_R N t le fe L) :
    ∀ n, n ≤ 2 * E → sc_R N (t + n) (fp_ps bw fr to cap uc fl le fe n).1 (fp_ps bw fr to cap uc fl le fe n).2.1 (bf_ps (pq_o cap fl) (pq_n bw fr to) (pq_n (!bw) fr to) (pq_w uc) L n) ∧
      ((fp_ps bw fr to cap uc fl le fe n = (le, fe, 0) ∧ ∀ a, a < n → bf_rx (pq_o cap fl) (pq_n bw fr to) (pq_n (!bw) fr to) (pq_w uc) a L = L) ∨ ((fp_ps bw fr to cap uc fl le fe n).2.2 = 1 ∧ ∃ a, a < n ∧ ¬ bf_rx (pq_o cap fl) (pq_n bw fr to) (pq_n (!bw) fr to) (pq_w uc) a (bf_ps (pq_o cap fl) (pq_n bw fr to) (pq_n (!bw) fr to) (pq_w uc) L a) = bf_ps (pq_o cap fl) (pq_n bw fr to) (pq_n (!bw) fr to) (pq_w uc) L a))
  | 0, _ => ⟨by rw [show t + ((0 : Nat) : Int) = t by omega]; exact hR, Or.inl ⟨rfl, fun a ha => absurd ha (Nat.not_lt_zero _)⟩⟩
  | n + 1, hn => by
    obtain ⟨i1, i2⟩ := sc_pass h bw ht0 ht hR n (by omega)
    have hE := h.2.2.1
    have st := sc_step (fl := fl) h bw (a := n) (by omega) (t := t + n) (by omega) (by omega) (ch := (fp_ps bw fr to cap uc fl le fe n).2.2) i1
    rw [show ((fp_ps bw fr to cap uc fl le fe n).1, (fp_ps bw fr to cap uc fl le fe n).2.1, (fp_ps bw fr to cap uc fl le fe n).2.2) = fp_ps bw fr to cap uc fl le fe n from rfl] at st
    obtain ⟨s1, s2⟩ := st
    refine ⟨?_, ?_⟩
    · rw [show t + ((n + 1 : Nat) : Int) = t + n + 1 by omega]
      exact s1
    · rcases s2 with ⟨s2, s3⟩ | ⟨s2, s3⟩
      · rcases i2 with ⟨i2, i3⟩ | ⟨i2, a, ha, i3⟩
        · refine Or.inl ⟨by rw [fp_ps, s2, i2], fun a ha => ?_⟩
          rcases Nat.lt_or_ge a n with q | q
          · exact i3 a q
          · have hps : bf_ps (pq_o cap fl) (pq_n bw fr to) (pq_n (!bw) fr to) (pq_w uc) L n = L := by
              clear s1 s2 s3 i1 i2
              have : ∀ m, m ≤ n → bf_ps (pq_o cap fl) (pq_n bw fr to) (pq_n (!bw) fr to) (pq_w uc) L m = L := by
                intro m
                induction m with
                | zero => intro _; rfl
                | succ m ih => intro hm; rw [bf_ps, ih (by omega), i3 m (by omega)]
              exact this n (Nat.le_refl _)
            rw [hps] at s3
            rw [show a = n by omega]; exact s3
        · refine Or.inr ⟨by rw [fp_ps, s2, i2], a, by omega, i3⟩
      · exact Or.inr ⟨by rw [fp_ps, s2], n, by omega, s3⟩
