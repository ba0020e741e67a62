theorem fp_rx_ch (bw : Bool) (fr to cap uc fl : Nat → Int32) (a : Nat) (st : (Nat → Int32) × (Nat → Int32) × Int32) : fp_rx bw fr to cap uc fl a st = st ∨ (fp_rx bw fr to cap uc fl a st).2.2 = 1 := by
  obtain ⟨le, fe, ch⟩ := st
  by_cases c1 : 0 < fp_lf cap fl a
  · by_cases c2 : le (fp_nr bw fr to a).toNatClampNeg = 2147483647
    · exact Or.inl (rx_b c1 c2)
    · cases hno : fp_no le fe (fp_nr (!bw) fr to a).toNatClampNeg (le (fp_nr bw fr to a).toNatClampNeg + fp_pr uc a) (fe (fp_nr bw fr to a).toNatClampNeg + 1) with
      | true => exact Or.inl (by rw [rx_c0 c1 c2 (sch_t hno), sle_t hno, sfe_t hno])
      | false => exact Or.inr (by rw [rx_c1 c1 c2 (by rw [sch_f hno]; decide)])
  · exact Or.inl (rx_a c1)
theorem fp_ps_0 (bw : Bool) (fr to cap uc fl le fe : Nat → Int32) : ∀ n, fp_ps bw fr to cap uc fl le fe n = (le, fe, 0) ∨ (fp_ps bw fr to cap uc fl le fe n).2.2 = 1
  | 0 => Or.inl rfl
  | n + 1 => by
    rw [fp_ps]
    rcases fp_rx_ch bw fr to cap uc fl n (fp_ps bw fr to cap uc fl le fe n) with h | h
    · rw [h]; exact fp_ps_0 bw fr to cap uc fl le fe n
    · exact Or.inr h
/-- class's labels behind k passes -/
def fp_ic (bw : Bool) (fr to cap uc fl : Nat → Int32) (A : Nat) (le fe : Nat → Int32) : Nat → (Nat → Int32) × (Nat → Int32)
  | 0 => (le, fe)
  | k + 1 => ((fp_ps bw fr to cap uc fl (fp_ic bw fr to cap uc fl A le fe k).1 (fp_ic bw fr to cap uc fl A le fe k).2 A).1, (fp_ps bw fr to cap uc fl (fp_ic bw fr to cap uc fl A le fe k).1 (fp_ic bw fr to cap uc fl A le fe k).2 A).2.1)
section
variable {bw : Bool} {fr to cap uc fl : Nat → Int32} {A : Nat}
theorem fp_ic_sh (le fe : Nat → Int32) : ∀ k, fp_ic bw fr to cap uc fl A le fe (k + 1) = fp_ic bw fr to cap uc fl A (fp_ps bw fr to cap uc fl le fe A).1 (fp_ps bw fr to cap uc fl le fe A).2.1 k
  | 0 => rfl
  | k + 1 => by rw [fp_ic, fp_ic_sh le fe k]; rfl
theorem fp_ic_st {le fe : Nat → Int32} (h : (fp_ps bw fr to cap uc fl le fe A).2.2 = 0) : ∀ k, fp_ic bw fr to cap uc fl A le fe k = (le, fe)
  | 0 => rfl
  | k + 1 => by
    rw [fp_ic, fp_ic_st h k]
    rcases fp_ps_0 bw fr to cap uc fl le fe A with q | q
    · rw [q]
    · rw [h] at q; exact absurd q (by decide)
theorem fp_se_it : ∀ n le fe, (fp_se bw fr to cap uc fl A n le fe).1 = (fp_ic bw fr to cap uc fl A le fe n).1 ∧ (fp_se bw fr to cap uc fl A n le fe).2.1 = (fp_ic bw fr to cap uc fl A le fe n).2 ∧ (¬ (fp_se bw fr to cap uc fl A n le fe).2.2 = 0 ↔ ∃ k, k < n ∧ (fp_ps bw fr to cap uc fl (fp_ic bw fr to cap uc fl A le fe k).1 (fp_ic bw fr to cap uc fl A le fe k).2 A).2.2 = 0)
  | 0, le, fe => ⟨rfl, rfl, fun h => absurd rfl h, fun ⟨k, hk, _⟩ => absurd hk (Nat.not_lt_zero _)⟩
  | n + 1, le, fe => by
    rw [fp_se]
    by_cases c : (fp_ps bw fr to cap uc fl le fe A).2.2 = 0
    · rw [if_pos c, fp_ic_st c (n + 1)]
      rcases fp_ps_0 bw fr to cap uc fl le fe A with q | q
      · rw [q]
        exact ⟨rfl, rfl, fun _ => ⟨0, by omega, by rw [fp_ic]; exact c⟩, fun _ => (by decide : ¬ (1 : Int32) = 0)⟩
      · rw [c] at q; exact absurd q (by decide)
    · rw [if_neg c, fp_ic_sh]
      obtain ⟨i1, i2, i3⟩ := fp_se_it n (fp_ps bw fr to cap uc fl le fe A).1 (fp_ps bw fr to cap uc fl le fe A).2.1
      refine ⟨i1, i2, i3.trans ⟨fun ⟨k, hk, hq⟩ => ⟨k + 1, by omega, by rw [fp_ic_sh]; exact hq⟩, fun ⟨k, hk, hq⟩ => ?_⟩⟩
      cases k with
      | zero => exact absurd hq c
      | succ k => exact ⟨k, by omega, by rw [fp_ic_sh] at hq; exact hq⟩
variable {N E : Nat}
theorem sc_mono {t t' : Int} (ht : t ≤ t') {le fe : Nat → Int32} {L : Nat → Option Int} (hR : sc_R N t le fe L) : sc_R N t' le fe L := by
  intro v hv
  rcases hR v hv with q | ⟨q1, q2, q3, q4, q5⟩
  · exact Or.inl q
  · exact Or.inr ⟨q1, by omega, by omega, q4, by omega⟩
theorem sc_it (h : pq_net fr to cap uc N E) {le fe : Nat → Int32} {L : Nat → Option Int} (hR : sc_R N 0 le fe L) : ∀ k : Nat, k ≤ 20 → sc_R N (80 * k) (fp_ic bw fr to cap uc fl (2 * E) le fe k).1 (fp_ic bw fr to cap uc fl (2 * E) le fe k).2 (bf_it (pq_o cap fl) (pq_n bw fr to) (pq_n (!bw) fr to) (pq_w uc) (2 * E) L k)
  | 0, _ => hR
  | k + 1, hk => by
    have hE := h.2.2.1
    have i := (sc_pass (fl := fl) h bw (t := 80 * k) (by omega) (by omega) (sc_it h hR k (by omega)) (2 * E) (Nat.le_refl _)).1
    exact sc_mono (by omega) i
/-- a fixed point: the pass changes nothing -/
theorem sc_fx (h : pq_net fr to cap uc N E) {t : Int} (ht0 : 0 ≤ t) (ht : t + 80 ≤ 2000) {le fe : Nat → Int32} {L : Nat → Option Int} (hR : sc_R N t le fe L) (hF : bf_fx (pq_o cap fl) (pq_n bw fr to) (pq_n (!bw) fr to) (pq_w uc) (2 * E) L) : (fp_ps bw fr to cap uc fl le fe (2 * E)).2.2 = 0 := by
  rcases (sc_pass (fl := fl) h bw ht0 ht hR (2 * E) (Nat.le_refl _)).2 with q | ⟨q, a, ha, hn⟩
  · rw [q.1]
  · exfalso
    apply hn
    rw [bf_ps_fx hF a (by omega)]
    have := bf_ps_fx hF (a + 1) (by omega)
    rw [bf_ps, bf_ps_fx hF a (by omega)] at this
    exact this
theorem sc_xf (h : pq_net fr to cap uc N E) {t : Int} (ht0 : 0 ≤ t) (ht : t + 80 ≤ 2000) {le fe : Nat → Int32} {L : Nat → Option Int} (hR : sc_R N t le fe L) (hp : (fp_ps bw fr to cap uc fl le fe (2 * E)).2.2 = 0) : bf_fx (pq_o cap fl) (pq_n bw fr to) (pq_n (!bw) fr to) (pq_w uc) (2 * E) L := by
  rcases (sc_pass (fl := fl) h bw ht0 ht hR (2 * E) (Nat.le_refl _)).2 with q | ⟨q, _⟩
  · intro a ha ho x hx
    have e := q.2 a ha
    have := bf_rx_arc (fa := pq_n (!bw) fr to) (w := pq_w uc) ho hx
    rw [e] at this
    exact this
  · rw [hp] at q; exact absurd q (by decide)
/-- a potential of the arcs that are open -/
def pq_pot (fr to cap uc fl : Nat → Int32) (E : Nat) (pi : Nat → Int) : Prop := ∀ a, a < 2 * E → 0 < fp_lf cap fl a → pi (pq_b fr to a) ≤ pi (pq_e fr to a) + (fp_pr uc a).toInt
theorem pq_hN (h : pq_net fr to cap uc N E) : ∀ a, a < 2 * E → pq_o cap fl a = true → pq_n bw fr to a < N - 1 + 1 ∧ pq_n (!bw) fr to a < N - 1 + 1 := by
  intro a ha _
  have := h.1
  rw [show N - 1 + 1 = N by omega]
  exact ⟨pq_n_lt h ha bw, pq_n_lt h ha (!bw)⟩
theorem pq_hpi_t {pi : Nat → Int} (hp : pq_pot fr to cap uc fl E pi) : ∀ a, a < 2 * E → pq_o cap fl a = true → (fun v => pi v * 1000000) (pq_n (!true) fr to a) ≤ (fun v => pi v * 1000000) (pq_n true fr to a) + pq_w uc a := by
  intro a ha ho
  have := hp a ha (of_decide_eq_true ho)
  show pi (pq_b fr to a) * 1000000 ≤ pi (pq_e fr to a) * 1000000 + ((fp_pr uc a).toInt * 1000000 + 1)
  omega
theorem pq_hpi_f {pi : Nat → Int} (hp : pq_pot fr to cap uc fl E pi) : ∀ a, a < 2 * E → pq_o cap fl a = true → (fun v => - pi v * 1000000) (pq_n (!false) fr to a) ≤ (fun v => - pi v * 1000000) (pq_n false fr to a) + pq_w uc a := by
  intro a ha ho
  have := hp a ha (of_decide_eq_true ho)
  show - pi (pq_e fr to a) * 1000000 ≤ - pi (pq_b fr to a) * 1000000 + ((fp_pr uc a).toInt * 1000000 + 1)
  omega
/-- P1a: the class's look for a circle -/
theorem circ_c (h : pq_net fr to cap uc N E) : ¬ (fp_se false fr to cap uc fl (2 * E) N (fun _ => 0) (fun _ => 0)).2.2 = 0 ↔ ∃ pi, pq_pot fr to cap uc fl E pi := by
  have hR0 : sc_R N 0 (fun _ => 0) (fun _ => 0) (fun _ => some 0) := by
    intro v _
    refine Or.inr ⟨?_, ?_, ?_, ?_, ?_⟩ <;> simp [i32_0]
  have hN2 := h.1
  have hN12 := h.2.1
  rw [(fp_se_it (bw := false) (fr := fr) (to := to) (cap := cap) (uc := uc) (fl := fl) (A := 2 * E) N (fun _ => 0) (fun _ => 0)).2.2]
  constructor
  · rintro ⟨k, hk, hq⟩
    have hR := sc_it (bw := false) (fl := fl) h hR0 k (by omega)
    have hF := sc_xf (bw := false) (fl := fl) h (by omega) (by omega) hR hq
    refine ⟨fun v => - ((fp_ic false fr to cap uc fl (2 * E) (fun _ => 0) (fun _ => 0) k).1 v).toInt, fun a ha ho => ?_⟩
    have some_of : ∀ v, v < N → bf_it (pq_o cap fl) (pq_n false fr to) (pq_n (!false) fr to) (pq_w uc) (2 * E) (fun _ => some 0) k v = some (((fp_ic false fr to cap uc fl (2 * E) (fun _ => 0) (fun _ => 0) k).1 v).toInt * 1000000 + ((fp_ic false fr to cap uc fl (2 * E) (fun _ => 0) (fun _ => 0) k).2 v).toInt) ∧ 0 ≤ ((fp_ic false fr to cap uc fl (2 * E) (fun _ => 0) (fun _ => 0) k).2 v).toInt ∧ ((fp_ic false fr to cap uc fl (2 * E) (fun _ => 0) (fun _ => 0) k).2 v).toInt ≤ 80 * k := by
      intro v hv
      rcases hR v hv with ⟨q1, _⟩ | ⟨q1, _, _, q4, q5⟩
      · exfalso
        have mono : ∀ k, bf_ol (bf_it (pq_o cap fl) (pq_n false fr to) (pq_n (!false) fr to) (pq_w uc) (2 * E) (fun _ => some 0) k v) (some 0) := by
          intro k
          induction k with
          | zero => exact bf_ol_rf _
          | succ k ih => exact bf_ol_tr (bf_ps_le _ v _) ih
        obtain ⟨z, hz, _⟩ := mono k 0 rfl
        rw [q1] at hz; cases hz
      · exact ⟨q1, q4, q5⟩
    obtain ⟨b1, b2, b3⟩ := some_of (pq_n false fr to a) (pq_n_lt h ha false)
    obtain ⟨c1, c2, c3⟩ := some_of (pq_n (!false) fr to a) (pq_n_lt h ha (!false))
    have := hF a ha (decide_eq_true ho) _ b1
    rw [c1, bf_ol_some] at this
    unfold pq_w at this
    show - ((fp_ic false fr to cap uc fl (2 * E) (fun _ => 0) (fun _ => 0) k).1 (pq_n false fr to a)).toInt ≤ - ((fp_ic false fr to cap uc fl (2 * E) (fun _ => 0) (fun _ => 0) k).1 (pq_n (!false) fr to a)).toInt + (fp_pr uc a).toInt
    omega
  · rintro ⟨pi, hp⟩
    refine ⟨N - 1, by omega, ?_⟩
    have hR := sc_it (bw := false) (fl := fl) h hR0 (N - 1) (by omega)
    exact sc_fx (bw := false) (fl := fl) h (by omega) (by omega) hR (bf_end (pi := fun v => - pi v * 1000000) (pq_hpi_f hp) (pq_hN h))
end
