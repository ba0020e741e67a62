section
variable {fr to cap uc : Nat → Int32} {N E : Nat}
theorem hp_P (ct : Nat → Int64) (n : Nat) : fp_hp fr to cap uc ct (n + 1) = fp_hx fr to cap uc n (fp_hp fr to cap uc ct n) := rfl
/-- the reference's costs behind k passes of its look for a circle -/
def fp_hi (fr to cap uc : Nat → Int32) (E : Nat) (ct : Nat → Int64) : Nat → (Nat → Int64)
  | 0 => ct
  | k + 1 => (fp_hp fr to cap uc (fp_hi fr to cap uc E ct k) E).1
theorem fp_hi_sh (ct : Nat → Int64) : ∀ k, fp_hi fr to cap uc E ct (k + 1) = fp_hi fr to cap uc E (fp_hp fr to cap uc ct E).1 k
  | 0 => rfl
  | k + 1 => by rw [fp_hi, fp_hi_sh ct k]; rfl
theorem fp_hc_it : ∀ n ct, (fp_hc fr to cap uc E (n + 1) ct 1).2 = 0 ↔ ∃ k, k < n + 1 ∧ (fp_hp fr to cap uc (fp_hi fr to cap uc E ct k) E).2 = 0
  | 0, ct => by
    rw [fp_hc, if_neg (by decide), fp_hc]
    constructor
    · intro h; exact ⟨0, by omega, h⟩
    · rintro ⟨k, hk, h⟩
      obtain rfl : k = 0 := by omega
      exact h
  | n + 1, ct => by
    rw [fp_hc, if_neg (by decide)]
    rcases fp_hp_ch fr to cap uc ct E with c | c
    · rw [hc_z c]
      exact ⟨fun _ => ⟨0, by omega, c⟩, fun _ => c⟩
    · rw [c, fp_hc_it n]
      constructor
      · rintro ⟨k, hk, h⟩; exact ⟨k + 1, by omega, by rw [fp_hi_sh]; exact h⟩
      · rintro ⟨k, hk, h⟩
        cases k with
        | zero => rw [fp_hi, c] at h; exact absurd h (by decide)
        | succ k => exact ⟨k, by omega, by rw [fp_hi_sh] at h; exact h⟩
theorem sh_it (h : pq_net fr to cap uc N E) {ct : Nat → Int64} {L : Nat → Option Int} (hR : sh_R N 0 ct L) : ∀ k : Nat, k ≤ 20 → sh_R N (80 * k) (fp_hi fr to cap uc E ct k) (bf_it (pq_oh cap) (fun e => (fr e).toNatClampNeg) (fun e => (to e).toNatClampNeg) (fun e => (uc e).toInt) E L k)
  | 0, _ => hR
  | k + 1, hk => by
    have hE := h.2.2.1
    have i := (gp_pass (A := E) (stp := fp_hx fr to cap uc) (flg := fun s => s.2) (R := fun t s L => sh_R N t s.1 L) (by omega) (fun a t st L ha h0 h1 hr => sh_step h a t st L ha h0 h1 hr) (P := fp_hp fr to cap uc (fp_hi fr to cap uc E ct k)) (fun n => rfl) (t := 80 * k) (by omega) (by omega) (sh_it h hR k (by omega)) E (Nat.le_refl _)).1
    exact sh_mono (by omega) i
theorem cap0_lf (cap : Nat → Int32) (e : Nat) : fp_lf cap (fun _ => 0) (2 * e) = cap e ∧ fp_lf cap (fun _ => 0) (2 * e + 1) = 0 := by
  unfold fp_lf
  rw [if_pos (by omega), if_neg (by omega)]
  refine ⟨?_, rfl⟩
  rw [show 2 * e / 2 = e by omega]
  exact Int32.sub_zero _
/-- P1b: the reference's look for a circle -/
theorem circ_r (h : pq_net fr to cap uc N E) (ct : Nat → Int64) : (fp_hc fr to cap uc E (N + 1) (fun j => if j < N then 0 else ct j) 1).2 = 0 ↔ ∃ pi, pq_pot fr to cap uc (fun _ => 0) E pi := by
  have hR0 : sh_R N 0 (fun j => if j < N then 0 else ct j) (fun _ => some 0) := by
    intro v hv
    dsimp only
    rw [if_pos hv, i64_0]
    exact ⟨rfl, by omega, by omega⟩
  have hN2 := h.1
  have hN12 := h.2.1
  have hE := h.2.2.1
  rw [fp_hc_it]
  constructor
  · rintro ⟨k, hk, hq⟩
    have hR := sh_it h hR0 k (by omega)
    have hF := gp_xf (A := E) (stp := fp_hx fr to cap uc) (flg := fun s => s.2) (R := fun t s L => sh_R N t s.1 L) (by omega) (fun a t st L ha h0 h1 hr => sh_step h a t st L ha h0 h1 hr) (P := fp_hp fr to cap uc (fp_hi fr to cap uc E (fun j => if j < N then 0 else ct j) k)) (fun n => rfl) (t := 80 * k) (by omega) (by omega) hR (by rw [hq]; decide)
    refine ⟨fun v => - (fp_hi fr to cap uc E (fun j => if j < N then 0 else ct j) k v).toInt, fun a ha ho => ?_⟩
    obtain ⟨g1, g2, -⟩ := h.2.2.2 (a / 2) (by omega)
    rcases (show a % 2 = 0 ∨ a % 2 = 1 by omega) with q | q
    · have ea : a = 2 * (a / 2) := by omega
      rw [ea, (cap0_lf cap (a / 2)).1] at ho
      have b1 := (hR _ (vp_lt g1)).1
      have b2 := (hR _ (vp_lt g2)).1
      have := hF (a / 2) (by omega) (decide_eq_true ho) _ b1
      rw [b2, bf_ol_some] at this
      have ep : fp_pr uc a = uc (a / 2) := by unfold fp_pr; rw [if_pos q]
      have eb : fp_bg fr to a = fr (a / 2) := by unfold fp_bg; rw [if_pos q]
      have ee : fp_en fr to a = to (a / 2) := by unfold fp_en; rw [if_pos q]
      unfold pq_b pq_e
      rw [ep, eb, ee]
      dsimp only at this ⊢
      omega
    · have ea : a = 2 * (a / 2) + 1 := by omega
      rw [ea, (cap0_lf cap (a / 2)).2] at ho
      exact absurd ho (by decide)
  · rintro ⟨pi, hp⟩
    refine ⟨N - 1, by omega, ?_⟩
    have hR := sh_it h hR0 (N - 1) (by omega)
    have hpi : ∀ a, a < E → pq_oh cap a = true → (fun v => - pi v) ((fun e => (to e).toNatClampNeg) a) ≤ (fun v => - pi v) ((fun e => (fr e).toNatClampNeg) a) + (fun e => (uc e).toInt) a := by
      intro a ha ho
      have := hp (2 * a) (by omega) (by rw [(cap0_lf cap a).1]; exact of_decide_eq_true ho)
      unfold pq_b pq_e fp_bg fp_en fp_pr at this
      rw [if_pos (by omega), if_pos (by omega), if_pos (by omega), show 2 * a / 2 = a by omega] at this
      dsimp only
      omega
    have hF := bf_end (A := E) (op := pq_oh cap) (nr := fun e => (fr e).toNatClampNeg) (fa := fun e => (to e).toNatClampNeg) (w := fun e => (uc e).toInt) (L0 := fun _ => some 0) (pi := fun v => - pi v) (n := N - 1) hpi (fun a ha _ => by
      obtain ⟨g1, g2, -⟩ := h.2.2.2 a ha
      have k1 := vp_lt g1
      have k2 := vp_lt g2
      omega)
    have := gp_fx (A := E) (stp := fp_hx fr to cap uc) (flg := fun s => s.2) (R := fun t s L => sh_R N t s.1 L) (by omega) (fun a t st L ha h0 h1 hr => sh_step h a t st L ha h0 h1 hr) (P := fp_hp fr to cap uc (fp_hi fr to cap uc E (fun j => if j < N then 0 else ct j) (N - 1))) (fun n => rfl) (t := 80 * (N - 1 : Nat)) (by omega) (by omega) hR hF
    rw [this]; rfl
end
