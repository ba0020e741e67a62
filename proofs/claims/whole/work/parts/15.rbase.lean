theorem dv2 {a : Nat} (h : a < 2 ^ 31) : nI a / 2 = nI (a / 2) := pk_div (d := 2) h (by omega) (by omega)
theorem rm2 {a : Nat} (h : a < 2 ^ 31) : nI a - nI a / 2 * 2 = nI (a % 2) := pk_rem (d := 2) h (by omega) (by omega)
theorem va_P_conJ {D : va_G} {cl : List vw_C} {ws : va_W} {H : Heap} (h : va_P D cl ws H) (k : Nat) {a : Nat} {cA : ClassId} {n : Nat} {f g : Nat → Int64} (hk : ws[k]? = some (a, .inl (cA, n, .inr (.inl f)))) (hfg : ∀ j, j < n → f j = g j) : va_P D cl (ws.set k (a, .inl (cA, n, .inr (.inl g)))) H := by
  intro i x hx
  by_cases hi : i = k
  · subst hi
    have hl : i < ws.length := (List.getElem?_eq_some_iff.mp hk).1
    rw [List.getElem?_set_self hl] at hx
    cases hx
    have := h i _ hk
    show H[a]? = some (vp_cell cA (n, .inr (.inl g)))
    have h2 : H[a]? = some (vp_cell cA (n, .inr (.inl f))) := this
    rw [h2, vp_cell_l, vp_cell_l, arrV_congr cA n (fun j hj => by rw [hfg j hj])]
  · rw [List.getElem?_set_ne (fun q => hi q.symm)] at hx
    exact h i x hx
/-- one edge of the reference's look for a circle -/
def fp_hx (fr to cap uc : Nat → Int32) (e : Nat) (st : (Nat → Int64) × Int32) : (Nat → Int64) × Int32 :=
  if cap e ≤ 0 then st else if st.1 (fr e).toNatClampNeg + (uc e).toInt64 < st.1 (to e).toNatClampNeg then (vp_updL st.1 (to e).toNatClampNeg (st.1 (fr e).toNatClampNeg + (uc e).toInt64), 1) else st
def fp_hp (fr to cap uc : Nat → Int32) (ct : Nat → Int64) : Nat → (Nat → Int64) × Int32
  | 0 => (ct, 0)
  | e + 1 => fp_hx fr to cap uc e (fp_hp fr to cap uc ct e)
def fp_hc (fr to cap uc : Nat → Int32) (E : Nat) : Nat → (Nat → Int64) → Int32 → (Nat → Int64) × Int32
  | 0, ct, ch => (ct, ch)
  | n + 1, ct, ch => if ch = 0 then (ct, ch) else fp_hc fr to cap uc E n (fp_hp fr to cap uc ct E).1 (fp_hp fr to cap uc ct E).2
theorem hx_a {fr to cap uc : Nat → Int32} {e : Nat} {st : (Nat → Int64) × Int32} (h : cap e ≤ 0) : fp_hx fr to cap uc e st = st := by unfold fp_hx; rw [if_pos h]
theorem hx_b {fr to cap uc : Nat → Int32} {e : Nat} {g : Nat → Int64} {ch : Int32} (h : ¬ cap e ≤ 0) (h2 : g (to e).toNatClampNeg ≤ g (fr e).toNatClampNeg + (uc e).toInt64) : fp_hx fr to cap uc e (g, ch) = (g, ch) := by unfold fp_hx; rw [if_neg h, if_neg (Int64.not_lt.mpr h2)]
theorem hx_c {fr to cap uc : Nat → Int32} {e : Nat} {g : Nat → Int64} {ch : Int32} (h : ¬ cap e ≤ 0) (h2 : ¬ g (to e).toNatClampNeg ≤ g (fr e).toNatClampNeg + (uc e).toInt64) : fp_hx fr to cap uc e (g, ch) = (vp_updL g (to e).toNatClampNeg (g (fr e).toNatClampNeg + (uc e).toInt64), 1) := by unfold fp_hx; rw [if_neg h, if_pos (Int64.not_le.mp h2)]
theorem fp_hp_ch (fr to cap uc : Nat → Int32) (ct : Nat → Int64) : ∀ n, (fp_hp fr to cap uc ct n).2 = 0 ∨ (fp_hp fr to cap uc ct n).2 = 1
  | 0 => Or.inl rfl
  | n + 1 => by
    have ih := fp_hp_ch fr to cap uc ct n
    unfold fp_hp fp_hx
    split
    · exact ih
    · split
      · exact Or.inr rfl
      · exact ih
theorem fp_hc_ch (fr to cap uc : Nat → Int32) (E : Nat) : ∀ n ct ch, (ch = 0 ∨ ch = 1) → (fp_hc fr to cap uc E n ct ch).2 = 0 ∨ (fp_hc fr to cap uc E n ct ch).2 = 1
  | 0, _, _, h => h
  | n + 1, ct, ch, h => by
    unfold fp_hc
    split
    · exact h
    · exact fp_hc_ch fr to cap uc E n _ _ (fp_hp_ch fr to cap uc ct E)
theorem hc_z {fr to cap uc : Nat → Int32} {E n : Nat} {ct : Nat → Int64} {ch : Int32} (h : ch = 0) : fp_hc fr to cap uc E n ct ch = (ct, ch) := by
  cases n with
  | zero => rfl
  | succ n => rw [fp_hc, if_pos h]
theorem hc_s {fr to cap uc : Nat → Int32} {E N i : Nat} {ct : Nat → Int64} {ch : Int32} (hi : i ≤ N) (h : ¬ ch = 0) : fp_hc fr to cap uc E (N + 1 - i) ct ch = fp_hc fr to cap uc E (N + 1 - (i + 1)) (fp_hp fr to cap uc ct E).1 (fp_hp fr to cap uc ct E).2 := by
  rw [show N + 1 - i = (N + 1 - (i + 1)) + 1 by omega, fp_hc, if_neg h]
/-- one arc of the reference's look for ways to the sink -/
def fp_wx (fr to cap uc fl : Nat → Int32) (snk : Int32) (a : Nat) (st : (Nat → Int32) × (Nat → Int64) × (Nat → Int32) × Int32) : (Nat → Int32) × (Nat → Int64) × (Nat → Int32) × Int32 :=
  if fp_lf cap fl a ≤ 0 then st else if st.1 (fp_en fr to a).toNatClampNeg = 0 then st else if fp_bg fr to a = snk then st else
  if st.1 (fp_bg fr to a).toNatClampNeg = 0 ∨ st.2.1 (fp_en fr to a).toNatClampNeg + (fp_pr uc a).toInt64 < st.2.1 (fp_bg fr to a).toNatClampNeg ∨ (st.2.1 (fp_en fr to a).toNatClampNeg + (fp_pr uc a).toInt64 = st.2.1 (fp_bg fr to a).toNatClampNeg ∧ st.2.2.1 (fp_en fr to a).toNatClampNeg + 1 < st.2.2.1 (fp_bg fr to a).toNatClampNeg)
  then (upd st.1 (fp_bg fr to a).toNatClampNeg 1, vp_updL st.2.1 (fp_bg fr to a).toNatClampNeg (st.2.1 (fp_en fr to a).toNatClampNeg + (fp_pr uc a).toInt64), upd st.2.2.1 (fp_bg fr to a).toNatClampNeg (st.2.2.1 (fp_en fr to a).toNatClampNeg + 1), 1) else st
def fp_wp (fr to cap uc fl : Nat → Int32) (snk : Int32) (s : (Nat → Int32) × (Nat → Int64) × (Nat → Int32)) : Nat → (Nat → Int32) × (Nat → Int64) × (Nat → Int32) × Int32
  | 0 => (s.1, s.2.1, s.2.2, 0)
  | a + 1 => fp_wx fr to cap uc fl snk a (fp_wp fr to cap uc fl snk s a)
/-- the labels behind k passes -/
def fp_ws (fr to cap uc fl : Nat → Int32) (snk : Int32) (A : Nat) (s : (Nat → Int32) × (Nat → Int64) × (Nat → Int32)) : Nat → (Nat → Int32) × (Nat → Int64) × (Nat → Int32)
  | 0 => s
  | k + 1 => ((fp_wp fr to cap uc fl snk (fp_ws fr to cap uc fl snk A s k) A).1, (fp_wp fr to cap uc fl snk (fp_ws fr to cap uc fl snk A s k) A).2.1, (fp_wp fr to cap uc fl snk (fp_ws fr to cap uc fl snk A s k) A).2.2.1)
def fp_w0 (N : Nat) (snk : Int32) (hw : Nat → Int32) (ct : Nat → Int64) (ta : Nat → Int32) : (Nat → Int32) × (Nat → Int64) × (Nat → Int32) := (fun j => if j < N then (if nI j = snk then 1 else 0) else hw j, fun j => if j < N then 0 else ct j, fun j => if j < N then 0 else ta j)
section
variable {fr to cap uc fl : Nat → Int32} {snk : Int32} {a : Nat} {g : Nat → Int32} {h : Nat → Int64} {k : Nat → Int32} {ch : Int32}
theorem wx_a (c1 : fp_lf cap fl a ≤ 0) : fp_wx fr to cap uc fl snk a (g, h, k, ch) = (g, h, k, ch) := by unfold fp_wx; rw [if_pos c1]
theorem wx_b (c1 : ¬ fp_lf cap fl a ≤ 0) (c2 : g (fp_en fr to a).toNatClampNeg = 0) : fp_wx fr to cap uc fl snk a (g, h, k, ch) = (g, h, k, ch) := by unfold fp_wx; rw [if_neg c1, if_pos c2]
theorem wx_c (c1 : ¬ fp_lf cap fl a ≤ 0) (c2 : ¬ g (fp_en fr to a).toNatClampNeg = 0) (c3 : fp_bg fr to a = snk) : fp_wx fr to cap uc fl snk a (g, h, k, ch) = (g, h, k, ch) := by unfold fp_wx; rw [if_neg c1, if_neg c2, if_pos c3]
theorem wx_d (c1 : ¬ fp_lf cap fl a ≤ 0) (c2 : ¬ g (fp_en fr to a).toNatClampNeg = 0) (c3 : ¬ fp_bg fr to a = snk) (c4 : ¬ g (fp_bg fr to a).toNatClampNeg = 0) (c5 : ¬ lg_cmp (h (fp_en fr to a).toNatClampNeg + (fp_pr uc a).toInt64) (h (fp_bg fr to a).toNatClampNeg) < 0)
    (c6 : ¬ lg_cmp (h (fp_en fr to a).toNatClampNeg + (fp_pr uc a).toInt64) (h (fp_bg fr to a).toNatClampNeg) = 0 ∨ k (fp_bg fr to a).toNatClampNeg ≤ k (fp_en fr to a).toNatClampNeg + 1) : fp_wx fr to cap uc fl snk a (g, h, k, ch) = (g, h, k, ch) := by
  unfold fp_wx
  rw [if_neg c1, if_neg c2, if_neg c3, if_neg]
  rintro (q | q | q)
  · exact c4 q
  · exact c5 ((lg_cmp_lt _ _).mpr q)
  · rcases c6 with c6 | c6
    · exact c6 ((lg_cmp_eq _ _).mpr q.1)
    · exact absurd q.2 (Int32.not_lt.mpr c6)
theorem wx_e (c1 : ¬ fp_lf cap fl a ≤ 0) (c2 : ¬ g (fp_en fr to a).toNatClampNeg = 0) (c3 : ¬ fp_bg fr to a = snk)
    (c4 : g (fp_bg fr to a).toNatClampNeg = 0 ∨ lg_cmp (h (fp_en fr to a).toNatClampNeg + (fp_pr uc a).toInt64) (h (fp_bg fr to a).toNatClampNeg) < 0 ∨ (lg_cmp (h (fp_en fr to a).toNatClampNeg + (fp_pr uc a).toInt64) (h (fp_bg fr to a).toNatClampNeg) = 0 ∧ ¬ k (fp_bg fr to a).toNatClampNeg ≤ k (fp_en fr to a).toNatClampNeg + 1)) :
    fp_wx fr to cap uc fl snk a (g, h, k, ch) = (upd g (fp_bg fr to a).toNatClampNeg 1, vp_updL h (fp_bg fr to a).toNatClampNeg (h (fp_en fr to a).toNatClampNeg + (fp_pr uc a).toInt64), upd k (fp_bg fr to a).toNatClampNeg (k (fp_en fr to a).toNatClampNeg + 1), 1) := by
  unfold fp_wx
  rw [if_neg c1, if_neg c2, if_neg c3, if_pos]
  rcases c4 with q | q | q
  · exact Or.inl q
  · exact Or.inr (Or.inl ((lg_cmp_lt _ _).mp q))
  · exact Or.inr (Or.inr ⟨(lg_cmp_eq _ _).mp q.1, Int32.not_le.mp q.2⟩)
end
theorem fp_wx_ch (fr to cap uc fl : Nat → Int32) (snk : Int32) (a : Nat) (st : (Nat → Int32) × (Nat → Int64) × (Nat → Int32) × Int32) : fp_wx fr to cap uc fl snk a st = st ∨ (fp_wx fr to cap uc fl snk a st).2.2.2 = 1 := by
  unfold fp_wx
  split
  · exact Or.inl rfl
  · split
    · exact Or.inl rfl
    · split
      · exact Or.inl rfl
      · split
        · exact Or.inr rfl
        · exact Or.inl rfl
theorem fp_wp_ch (fr to cap uc fl : Nat → Int32) (snk : Int32) (s : (Nat → Int32) × (Nat → Int64) × (Nat → Int32)) : ∀ n, fp_wp fr to cap uc fl snk s n = (s.1, s.2.1, s.2.2, 0) ∨ (fp_wp fr to cap uc fl snk s n).2.2.2 = 1
  | 0 => Or.inl rfl
  | n + 1 => by
    rw [fp_wp]
    rcases fp_wx_ch fr to cap uc fl snk n (fp_wp fr to cap uc fl snk s n) with h | h
    · rw [h]; exact fp_wp_ch fr to cap uc fl snk s n
    · exact Or.inr h
/-- a pass that changes nothing: so it stays -/
theorem fp_ws_st {fr to cap uc fl : Nat → Int32} {snk : Int32} {A : Nat} {s : (Nat → Int32) × (Nat → Int64) × (Nat → Int32)} {k : Nat} (h : (fp_wp fr to cap uc fl snk (fp_ws fr to cap uc fl snk A s k) A).2.2.2 = 0) : ∀ d, fp_ws fr to cap uc fl snk A s (k + d) = fp_ws fr to cap uc fl snk A s k
  | 0 => rfl
  | d + 1 => by
    have ih := fp_ws_st h d
    rw [← Nat.add_assoc, fp_ws, ih]
    rcases fp_wp_ch fr to cap uc fl snk (fp_ws fr to cap uc fl snk A s k) A with q | q
    · rw [q]
    · rw [h] at q; exact absurd q (by decide)
/-- nextArc's arcs -/
def fp_tq (fr to cap uc fl hw : Nat → Int32) (ct : Nat → Int64) (ta : Nat → Int32) (x : Int32) (a : Nat) : Bool :=
  decide (fp_bg fr to a = x) && (!decide (fp_lf cap fl a ≤ 0) && (!decide (hw (fp_en fr to a).toNatClampNeg = 0) && (decide (ct (fp_en fr to a).toNatClampNeg + (fp_pr uc a).toInt64 = ct x.toNatClampNeg) && decide (ta (fp_en fr to a).toNatClampNeg + 1 = ta x.toNatClampNeg))))
section
variable {fr to cap uc fl hw : Nat → Int32} {ct : Nat → Int64} {ta : Nat → Int32} {x : Int32} {a : Nat}
theorem tq_1 (h : ¬ fp_bg fr to a = x) : fp_tq fr to cap uc fl hw ct ta x a = false := by simp [fp_tq, h]
theorem tq_2 (h : fp_lf cap fl a ≤ 0) : fp_tq fr to cap uc fl hw ct ta x a = false := by simp [fp_tq, h]
theorem tq_3 (h : hw (fp_en fr to a).toNatClampNeg = 0) : fp_tq fr to cap uc fl hw ct ta x a = false := by simp [fp_tq, h]
theorem tq_4 (h : ¬ lg_cmp (ct (fp_en fr to a).toNatClampNeg + (fp_pr uc a).toInt64) (ct x.toNatClampNeg) = 0) : fp_tq fr to cap uc fl hw ct ta x a = false := by rw [lg_cmp_eq] at h; simp [fp_tq, h]
theorem tq_5 (h : ¬ ta (fp_en fr to a).toNatClampNeg + 1 = ta x.toNatClampNeg) : fp_tq fr to cap uc fl hw ct ta x a = false := by simp [fp_tq, h]
theorem tq_t (h1 : fp_bg fr to a = x) (h2 : ¬ fp_lf cap fl a ≤ 0) (h3 : ¬ hw (fp_en fr to a).toNatClampNeg = 0) (h4 : lg_cmp (ct (fp_en fr to a).toNatClampNeg + (fp_pr uc a).toInt64) (ct x.toNatClampNeg) = 0) (h5 : ta (fp_en fr to a).toNatClampNeg + 1 = ta x.toNatClampNeg) : fp_tq fr to cap uc fl hw ct ta x a = true := by rw [lg_cmp_eq] at h4; simp [fp_tq, h1, h2, h3, h4, h5]
end
/-- one arc of the reference's look for costs from the source -/
def fp_cx (fr to cap uc fl : Nat → Int32) (src : Int32) (a : Nat) (st : (Nat → Int32) × (Nat → Int64) × Int32) : (Nat → Int32) × (Nat → Int64) × Int32 :=
  if fp_lf cap fl a ≤ 0 then st else if st.1 (fp_bg fr to a).toNatClampNeg = 0 then st else if fp_en fr to a = src then st else
  if st.1 (fp_en fr to a).toNatClampNeg = 0 ∨ st.2.1 (fp_bg fr to a).toNatClampNeg + (fp_pr uc a).toInt64 < st.2.1 (fp_en fr to a).toNatClampNeg
  then (upd st.1 (fp_en fr to a).toNatClampNeg 1, vp_updL st.2.1 (fp_en fr to a).toNatClampNeg (st.2.1 (fp_bg fr to a).toNatClampNeg + (fp_pr uc a).toInt64), 1) else st
def fp_cp (fr to cap uc fl : Nat → Int32) (src : Int32) (s : (Nat → Int32) × (Nat → Int64)) : Nat → (Nat → Int32) × (Nat → Int64) × Int32
  | 0 => (s.1, s.2, 0)
  | a + 1 => fp_cx fr to cap uc fl src a (fp_cp fr to cap uc fl src s a)
def fp_cs (fr to cap uc fl : Nat → Int32) (src : Int32) (A : Nat) (s : (Nat → Int32) × (Nat → Int64)) : Nat → (Nat → Int32) × (Nat → Int64)
  | 0 => s
  | k + 1 => ((fp_cp fr to cap uc fl src (fp_cs fr to cap uc fl src A s k) A).1, (fp_cp fr to cap uc fl src (fp_cs fr to cap uc fl src A s k) A).2.1)
def fp_c0 (N : Nat) (src : Int32) (hw : Nat → Int32) (ct : Nat → Int64) : (Nat → Int32) × (Nat → Int64) := (fun j => if j < N then (if nI j = src then 1 else 0) else hw j, fun j => if j < N then 0 else ct j)
section
variable {fr to cap uc fl : Nat → Int32} {src : Int32} {a : Nat} {g : Nat → Int32} {h : Nat → Int64} {ch : Int32}
theorem cx_a (c1 : fp_lf cap fl a ≤ 0) : fp_cx fr to cap uc fl src a (g, h, ch) = (g, h, ch) := by unfold fp_cx; rw [if_pos c1]
theorem cx_b (c1 : ¬ fp_lf cap fl a ≤ 0) (c2 : g (fp_bg fr to a).toNatClampNeg = 0) : fp_cx fr to cap uc fl src a (g, h, ch) = (g, h, ch) := by unfold fp_cx; rw [if_neg c1, if_pos c2]
theorem cx_c (c1 : ¬ fp_lf cap fl a ≤ 0) (c2 : ¬ g (fp_bg fr to a).toNatClampNeg = 0) (c3 : fp_en fr to a = src) : fp_cx fr to cap uc fl src a (g, h, ch) = (g, h, ch) := by unfold fp_cx; rw [if_neg c1, if_neg c2, if_pos c3]
theorem cx_d (c1 : ¬ fp_lf cap fl a ≤ 0) (c2 : ¬ g (fp_bg fr to a).toNatClampNeg = 0) (c3 : ¬ fp_en fr to a = src) (c4 : ¬ g (fp_en fr to a).toNatClampNeg = 0) (c5 : 0 ≤ lg_cmp (h (fp_bg fr to a).toNatClampNeg + (fp_pr uc a).toInt64) (h (fp_en fr to a).toNatClampNeg)) : fp_cx fr to cap uc fl src a (g, h, ch) = (g, h, ch) := by
  unfold fp_cx
  rw [if_neg c1, if_neg c2, if_neg c3, if_neg]
  rintro (q | q)
  · exact c4 q
  · exact absurd q (Int64.not_lt.mpr ((lg_cmp_ge _ _).mp c5))
theorem cx_e (c1 : ¬ fp_lf cap fl a ≤ 0) (c2 : ¬ g (fp_bg fr to a).toNatClampNeg = 0) (c3 : ¬ fp_en fr to a = src)
    (c4 : g (fp_en fr to a).toNatClampNeg = 0 ∨ ¬ 0 ≤ lg_cmp (h (fp_bg fr to a).toNatClampNeg + (fp_pr uc a).toInt64) (h (fp_en fr to a).toNatClampNeg)) :
    fp_cx fr to cap uc fl src a (g, h, ch) = (upd g (fp_en fr to a).toNatClampNeg 1, vp_updL h (fp_en fr to a).toNatClampNeg (h (fp_bg fr to a).toNatClampNeg + (fp_pr uc a).toInt64), 1) := by
  unfold fp_cx
  rw [if_neg c1, if_neg c2, if_neg c3, if_pos]
  rcases c4 with q | q
  · exact Or.inl q
  · rw [lg_cmp_ge] at q; exact Or.inr (Int64.not_le.mp q)
end
theorem fp_cx_ch (fr to cap uc fl : Nat → Int32) (src : Int32) (a : Nat) (st : (Nat → Int32) × (Nat → Int64) × Int32) : fp_cx fr to cap uc fl src a st = st ∨ (fp_cx fr to cap uc fl src a st).2.2 = 1 := by
  unfold fp_cx
  split
  · exact Or.inl rfl
  · split
    · exact Or.inl rfl
    · split
      · exact Or.inl rfl
      · split
        · exact Or.inr rfl
        · exact Or.inl rfl
theorem fp_cp_ch (fr to cap uc fl : Nat → Int32) (src : Int32) (s : (Nat → Int32) × (Nat → Int64)) : ∀ n, fp_cp fr to cap uc fl src s n = (s.1, s.2, 0) ∨ (fp_cp fr to cap uc fl src s n).2.2 = 1
  | 0 => Or.inl rfl
  | n + 1 => by
    rw [fp_cp]
    rcases fp_cx_ch fr to cap uc fl src n (fp_cp fr to cap uc fl src s n) with h | h
    · rw [h]; exact fp_cp_ch fr to cap uc fl src s n
    · exact Or.inr h
theorem fp_cs_st {fr to cap uc fl : Nat → Int32} {src : Int32} {A : Nat} {s : (Nat → Int32) × (Nat → Int64)} {k : Nat} (h : (fp_cp fr to cap uc fl src (fp_cs fr to cap uc fl src A s k) A).2.2 = 0) : ∀ d, fp_cs fr to cap uc fl src A s (k + d) = fp_cs fr to cap uc fl src A s k
  | 0 => rfl
  | d + 1 => by
    have ih := fp_cs_st h d
    rw [← Nat.add_assoc, fp_cs, ih]
    rcases fp_cp_ch fr to cap uc fl src (fp_cs fr to cap uc fl src A s k) A with q | q
    · rw [q]
    · rw [h] at q; exact absurd q (by decide)
def fp_mu (f : Nat → Int32) (ar : Nat → Nat) : Nat → Int32
  | 0 => 2147483647
  | n + 1 => if f (ar n) < fp_mu f ar n then f (ar n) else fp_mu f ar n
theorem i32_max (x : Int32) : x ≤ 2147483647 := by
  rw [Int32.le_iff_toInt_le]
  have := Int32.toInt_lt x
  have e : (2147483647 : Int32).toInt = 2147483647 := by decide
  omega
theorem fp_mu_mn (f : Nat → Int32) (ar : Nat → Nat) : ∀ n, fp_mu f ar (n + 1) = fp_mn f ar n
  | 0 => by
    show (if f (ar 0) < 2147483647 then f (ar 0) else 2147483647) = f (ar 0)
    split
    · rfl
    · rename_i h
      exact Int32.le_antisymm (Int32.not_lt.mp h) (i32_max _)
  | n + 1 => by rw [fp_mu, fp_mu_mn f ar n, fp_mn]
theorem hn_o1 {x : Int32} {N : Nat} (c : x < 0) : ¬ vp_in x N := fun h => h (Or.inl c)
theorem hn_o2 {x : Int32} {N : Nat} (hN : N < 1000) (c : nI N ≤ x) : ¬ vp_in x N := by
  intro h
  obtain ⟨j, hj, rfl⟩ := vp_in_of h (by omega)
  exact nI_ge hj (by omega) c
