theorem bg_in {fr to : Nat → Int32} {N E : Nat} (hfr : ∀ e, e < E → vp_in (fr e) N) (hto : ∀ e, e < E → vp_in (to e) N) {a : Nat} (ha : a < 2 * E) : vp_in (fp_bg fr to a) N := by
  unfold fp_bg; split
  · exact hfr _ (by omega)
  · exact hto _ (by omega)
theorem en_in {fr to : Nat → Int32} {N E : Nat} (hfr : ∀ e, e < E → vp_in (fr e) N) (hto : ∀ e, e < E → vp_in (to e) N) {a : Nat} (ha : a < 2 * E) : vp_in (fp_en fr to a) N := by
  unfold fp_en; split
  · exact hto _ (by omega)
  · exact hfr _ (by omega)
/-- no shortening: a label stays -/
def fp_no (le fe : Nat → Int32) (x : Nat) (y z : Int32) : Bool := decide (le x < y) || (decide (y = le x) && !decide (z < fe x))
def fp_sle (le fe : Nat → Int32) (x : Nat) (y z : Int32) : Nat → Int32 := if fp_no le fe x y z = true then le else upd le x y
def fp_sfe (le fe : Nat → Int32) (x : Nat) (y z : Int32) : Nat → Int32 := if fp_no le fe x y z = true then fe else upd fe x z
def fp_sch (le fe : Nat → Int32) (x : Nat) (y z : Int32) : Int32 := if fp_no le fe x y z = true then 0 else 1
theorem sle_t {le fe : Nat → Int32} {x : Nat} {y z : Int32} (h : fp_no le fe x y z = true) : fp_sle le fe x y z = le := by simp [fp_sle, h]
theorem sfe_t {le fe : Nat → Int32} {x : Nat} {y z : Int32} (h : fp_no le fe x y z = true) : fp_sfe le fe x y z = fe := by simp [fp_sfe, h]
theorem sch_t {le fe : Nat → Int32} {x : Nat} {y z : Int32} (h : fp_no le fe x y z = true) : fp_sch le fe x y z = 0 := by simp [fp_sch, h]
theorem sle_f {le fe : Nat → Int32} {x : Nat} {y z : Int32} (h : fp_no le fe x y z = false) : fp_sle le fe x y z = upd le x y := by simp [fp_sle, h]
theorem sfe_f {le fe : Nat → Int32} {x : Nat} {y z : Int32} (h : fp_no le fe x y z = false) : fp_sfe le fe x y z = upd fe x z := by simp [fp_sfe, h]
theorem sch_f {le fe : Nat → Int32} {x : Nat} {y z : Int32} (h : fp_no le fe x y z = false) : fp_sch le fe x y z = 1 := by simp [fp_sch, h]
theorem no_1 {le fe : Nat → Int32} {x : Nat} {y z : Int32} (h : le x < y) : fp_no le fe x y z = true := by simp [fp_no, h]
theorem no_2 {le fe : Nat → Int32} {x : Nat} {y z : Int32} (h2 : y = le x) (h3 : ¬ z < fe x) : fp_no le fe x y z = true := by simp [fp_no, h2, h3]
theorem no_3 {le fe : Nat → Int32} {x : Nat} {y z : Int32} (h1 : ¬ le x < y) (h2 : ¬ y = le x) : fp_no le fe x y z = false := by simp [fp_no, h1, h2]
theorem no_4 {le fe : Nat → Int32} {x : Nat} {y z : Int32} (h1 : ¬ le x < y) (h3 : z < fe x) : fp_no le fe x y z = false := by simp [fp_no, h1, h3]
def fp_nr (bw : Bool) (fr to : Nat → Int32) (a : Nat) : Int32 := match bw with
  | true => fp_en fr to a
  | false => fp_bg fr to a
/-- one arc of a pass -/
def fp_rx (bw : Bool) (fr to cap uc fl : Nat → Int32) (a : Nat) (st : (Nat → Int32) × (Nat → Int32) × Int32) : (Nat → Int32) × (Nat → Int32) × Int32 :=
  if ¬ 0 < fp_lf cap fl a then st else if st.1 (fp_nr bw fr to a).toNatClampNeg = 2147483647 then st else
  (fp_sle st.1 st.2.1 (fp_nr (!bw) fr to a).toNatClampNeg (st.1 (fp_nr bw fr to a).toNatClampNeg + fp_pr uc a) (st.2.1 (fp_nr bw fr to a).toNatClampNeg + 1),
   fp_sfe st.1 st.2.1 (fp_nr (!bw) fr to a).toNatClampNeg (st.1 (fp_nr bw fr to a).toNatClampNeg + fp_pr uc a) (st.2.1 (fp_nr bw fr to a).toNatClampNeg + 1),
   if fp_sch st.1 st.2.1 (fp_nr (!bw) fr to a).toNatClampNeg (st.1 (fp_nr bw fr to a).toNatClampNeg + fp_pr uc a) (st.2.1 (fp_nr bw fr to a).toNatClampNeg + 1) = 0 then st.2.2 else 1)
def fp_ps (bw : Bool) (fr to cap uc fl le fe : Nat → Int32) : Nat → (Nat → Int32) × (Nat → Int32) × Int32
  | 0 => (le, fe, 0)
  | a + 1 => fp_rx bw fr to cap uc fl a (fp_ps bw fr to cap uc fl le fe a)
theorem rx_a {bw : Bool} {fr to cap uc fl : Nat → Int32} {a : Nat} {st : (Nat → Int32) × (Nat → Int32) × Int32} (h : ¬ 0 < fp_lf cap fl a) : fp_rx bw fr to cap uc fl a st = st := by unfold fp_rx; rw [if_pos h]
theorem rx_b {bw : Bool} {fr to cap uc fl : Nat → Int32} {a : Nat} {g h : Nat → Int32} {ch : Int32} (h1 : 0 < fp_lf cap fl a) (h2 : g (fp_nr bw fr to a).toNatClampNeg = 2147483647) : fp_rx bw fr to cap uc fl a (g, h, ch) = (g, h, ch) := by unfold fp_rx; rw [if_neg (fun q => q h1), if_pos h2]
theorem rx_c0 {bw : Bool} {fr to cap uc fl : Nat → Int32} {a : Nat} {g h : Nat → Int32} {ch : Int32} (h1 : 0 < fp_lf cap fl a) (h2 : ¬ g (fp_nr bw fr to a).toNatClampNeg = 2147483647)
    (h3 : fp_sch g h (fp_nr (!bw) fr to a).toNatClampNeg (g (fp_nr bw fr to a).toNatClampNeg + fp_pr uc a) (h (fp_nr bw fr to a).toNatClampNeg + 1) = 0) :
    fp_rx bw fr to cap uc fl a (g, h, ch) = (fp_sle g h (fp_nr (!bw) fr to a).toNatClampNeg (g (fp_nr bw fr to a).toNatClampNeg + fp_pr uc a) (h (fp_nr bw fr to a).toNatClampNeg + 1), fp_sfe g h (fp_nr (!bw) fr to a).toNatClampNeg (g (fp_nr bw fr to a).toNatClampNeg + fp_pr uc a) (h (fp_nr bw fr to a).toNatClampNeg + 1), ch) := by
  unfold fp_rx; rw [if_neg (fun q => q h1), if_neg h2]; dsimp only; rw [if_pos h3]
theorem rx_c1 {bw : Bool} {fr to cap uc fl : Nat → Int32} {a : Nat} {g h : Nat → Int32} {ch : Int32} (h1 : 0 < fp_lf cap fl a) (h2 : ¬ g (fp_nr bw fr to a).toNatClampNeg = 2147483647)
    (h3 : ¬ fp_sch g h (fp_nr (!bw) fr to a).toNatClampNeg (g (fp_nr bw fr to a).toNatClampNeg + fp_pr uc a) (h (fp_nr bw fr to a).toNatClampNeg + 1) = 0) :
    fp_rx bw fr to cap uc fl a (g, h, ch) = (fp_sle g h (fp_nr (!bw) fr to a).toNatClampNeg (g (fp_nr bw fr to a).toNatClampNeg + fp_pr uc a) (h (fp_nr bw fr to a).toNatClampNeg + 1), fp_sfe g h (fp_nr (!bw) fr to a).toNatClampNeg (g (fp_nr bw fr to a).toNatClampNeg + fp_pr uc a) (h (fp_nr bw fr to a).toNatClampNeg + 1), 1) := by
  unfold fp_rx; rw [if_neg (fun q => q h1), if_neg h2]; dsimp only; rw [if_neg h3]
theorem rch0 {x : Int32} (h : (if x = 2147483647 then (0 : Int32) else 1) = 0) : x = 2147483647 := by
  by_cases q : x = 2147483647
  · exact q
  · rw [if_neg q] at h; exact absurd h (by decide)
theorem rch1 {x : Int32} (h : ¬ (if x = 2147483647 then (0 : Int32) else 1) = 0) : ¬ x = 2147483647 := fun q => h (by rw [if_pos q])
theorem nb01 {v : Int32} (h : v = 0 ∨ v = 1) : narrow .boolean (.int v) = .int v := by rcases h with rfl | rfl <;> rfl
theorem fp_ps_ch (bw : Bool) (fr to cap uc fl le fe : Nat → Int32) : ∀ n, (fp_ps bw fr to cap uc fl le fe n).2.2 = 0 ∨ (fp_ps bw fr to cap uc fl le fe n).2.2 = 1
  | 0 => Or.inl rfl
  | n + 1 => by
    have ih := fp_ps_ch bw fr to cap uc fl le fe n
    unfold fp_ps fp_rx
    split
    · exact ih
    · split
      · exact ih
      · dsimp only
        split
        · exact ih
        · exact Or.inr rfl
/-- settle: at most n passes, until one changes nothing -/
def fp_se (bw : Bool) (fr to cap uc fl : Nat → Int32) (A : Nat) : Nat → (Nat → Int32) → (Nat → Int32) → (Nat → Int32) × (Nat → Int32) × Int32
  | 0, le, fe => (le, fe, 0)
  | n + 1, le, fe => if (fp_ps bw fr to cap uc fl le fe A).2.2 = 0 then ((fp_ps bw fr to cap uc fl le fe A).1, (fp_ps bw fr to cap uc fl le fe A).2.1, 1) else fp_se bw fr to cap uc fl A n (fp_ps bw fr to cap uc fl le fe A).1 (fp_ps bw fr to cap uc fl le fe A).2.1
theorem fp_se_ch (bw : Bool) (fr to cap uc fl : Nat → Int32) (A : Nat) : ∀ n le fe, (fp_se bw fr to cap uc fl A n le fe).2.2 = 0 ∨ (fp_se bw fr to cap uc fl A n le fe).2.2 = 1
  | 0, _, _ => Or.inl rfl
  | n + 1, le, fe => by
    unfold fp_se
    split
    · exact Or.inr rfl
    · exact fp_se_ch bw fr to cap uc fl A n _ _
theorem se_t {bw : Bool} {fr to cap uc fl le fe : Nat → Int32} {A N i : Nat} (h : i < N) (c : (fp_ps bw fr to cap uc fl le fe A).2.2 = 0) : fp_se bw fr to cap uc fl A (N - i) le fe = ((fp_ps bw fr to cap uc fl le fe A).1, (fp_ps bw fr to cap uc fl le fe A).2.1, 1) := by
  rw [show N - i = (N - (i + 1)) + 1 by omega]
  unfold fp_se
  rw [if_pos c]
theorem se_f {bw : Bool} {fr to cap uc fl le fe : Nat → Int32} {A N i : Nat} (h : i < N) (c : ¬ (fp_ps bw fr to cap uc fl le fe A).2.2 = 0) : fp_se bw fr to cap uc fl A (N - i) le fe = fp_se bw fr to cap uc fl A (N - (i + 1)) (fp_ps bw fr to cap uc fl le fe A).1 (fp_ps bw fr to cap uc fl le fe A).2.1 := by
  rw [show N - i = (N - (i + 1)) + 1 by omega]
  rw [fp_se, if_neg c]
/-- the first of n places from a on where P holds -/
def fp_la (P : Nat → Bool) : Nat → Nat → Int32
  | 0, _ => -1
  | n + 1, a => if P a = true then nI a else fp_la P n (a + 1)
theorem la_t {P : Nat → Bool} {n i : Nat} (h : i < n) (c : P i = true) : fp_la P (n - i) i = nI i := by
  rw [show n - i = (n - (i + 1)) + 1 by omega, fp_la, if_pos c]
theorem la_f {P : Nat → Bool} {n i : Nat} (h : i < n) (c : P i = false) : fp_la P (n - i) i = fp_la P (n - (i + 1)) (i + 1) := by
  rw [show n - i = (n - (i + 1)) + 1 by omega, fp_la, if_neg (by rw [c]; decide)]
/-- an arc from x by which a best way goes on -/
def fp_tg (fr to cap uc fl le fe : Nat → Int32) (x : Int32) (a : Nat) : Bool :=
  decide (fp_bg fr to a = x) && (decide (0 < fp_lf cap fl a) && (!decide (le (fp_en fr to a).toNatClampNeg = 2147483647) && (decide (le (fp_en fr to a).toNatClampNeg + fp_pr uc a = le x.toNatClampNeg) && decide (fe (fp_en fr to a).toNatClampNeg + 1 = fe x.toNatClampNeg))))
theorem tg_1 {fr to cap uc fl le fe : Nat → Int32} {x : Int32} {a : Nat} (h : ¬ fp_bg fr to a = x) : fp_tg fr to cap uc fl le fe x a = false := by simp [fp_tg, h]
theorem tg_2 {fr to cap uc fl le fe : Nat → Int32} {x : Int32} {a : Nat} (h : ¬ 0 < fp_lf cap fl a) : fp_tg fr to cap uc fl le fe x a = false := by simp [fp_tg, h]
theorem tg_3 {fr to cap uc fl le fe : Nat → Int32} {x : Int32} {a : Nat} (h : le (fp_en fr to a).toNatClampNeg = 2147483647) : fp_tg fr to cap uc fl le fe x a = false := by simp [fp_tg, h]
theorem tg_4 {fr to cap uc fl le fe : Nat → Int32} {x : Int32} {a : Nat} (h : ¬ le (fp_en fr to a).toNatClampNeg + fp_pr uc a = le x.toNatClampNeg) : fp_tg fr to cap uc fl le fe x a = false := by simp [fp_tg, h]
theorem tg_5 {fr to cap uc fl le fe : Nat → Int32} {x : Int32} {a : Nat} (h : ¬ fe (fp_en fr to a).toNatClampNeg + 1 = fe x.toNatClampNeg) : fp_tg fr to cap uc fl le fe x a = false := by simp [fp_tg, h]
theorem tg_t {fr to cap uc fl le fe : Nat → Int32} {x : Int32} {a : Nat} (h1 : fp_bg fr to a = x) (h2 : 0 < fp_lf cap fl a) (h3 : ¬ le (fp_en fr to a).toNatClampNeg = 2147483647) (h4 : le (fp_en fr to a).toNatClampNeg + fp_pr uc a = le x.toNatClampNeg) (h5 : fe (fp_en fr to a).toNatClampNeg + 1 = fe x.toNatClampNeg) : fp_tg fr to cap uc fl le fe x a = true := by simp [fp_tg, h1, h2, h3, h4, h5]
