/-! Labels and passes over the integers: none is 'no way' -/
def bf_ol (x y : Option Int) : Prop := ∀ b, y = some b → ∃ a, x = some a ∧ a ≤ b
theorem bf_ol_rf (x : Option Int) : bf_ol x x := fun b h => ⟨b, h, Int.le_refl b⟩
theorem bf_ol_tr {x y z : Option Int} (h1 : bf_ol x y) (h2 : bf_ol y z) : bf_ol x z := fun c hc => by
  obtain ⟨b, hb, hbc⟩ := h2 c hc
  obtain ⟨a, ha, hab⟩ := h1 b hb
  exact ⟨a, ha, Int.le_trans hab hbc⟩
theorem bf_ol_as {x y : Option Int} (h1 : bf_ol x y) (h2 : bf_ol y x) : x = y := by
  cases x with
  | none =>
    cases y with
    | none => rfl
    | some b => obtain ⟨a, ha, _⟩ := h1 b rfl; cases ha
  | some a =>
    cases y with
    | none => obtain ⟨c, hc, _⟩ := h2 a rfl; cases hc
    | some b =>
      obtain ⟨c, hc, h3⟩ := h1 b rfl
      obtain ⟨d, hd, h4⟩ := h2 a rfl
      cases hc; cases hd
      rw [Int.le_antisymm h3 h4]
theorem bf_ol_some {a b : Int} : bf_ol (some a) (some b) ↔ a ≤ b := by
  constructor
  · intro h
    obtain ⟨c, hc, h2⟩ := h b rfl
    cases hc; exact h2
  · intro h c hc
    cases hc
    exact ⟨a, rfl, h⟩
def bf_set (L : Nat → Option Int) (k : Nat) (x : Int) : Nat → Option Int := fun j => if j = k then some x else L j
def bf_lt (x : Int) (y : Option Int) : Bool := match y with
  | none => true
  | some y => decide (x < y)
theorem bf_lt_ol {x : Int} {y : Option Int} (h : bf_lt x y = true) : bf_ol (some x) y := by
  intro b hb
  subst hb
  have : x < b := of_decide_eq_true h
  exact ⟨x, rfl, Int.le_of_lt this⟩
theorem bf_nlt {x : Int} {y : Option Int} (h : ¬ bf_lt x y = true) : bf_ol y (some x) := by
  cases y with
  | none => exact absurd rfl h
  | some b =>
    rw [bf_ol_some]
    have : ¬ x < b := fun q => h (decide_eq_true q)
    omega
def bf_rx (op : Nat → Bool) (nr fa : Nat → Nat) (w : Nat → Int) (a : Nat) (L : Nat → Option Int) : Nat → Option Int :=
  if op a = true then (match L (nr a) with
    | none => L
    | some x => if bf_lt (x + w a) (L (fa a)) = true then bf_set L (fa a) (x + w a) else L) else L
def bf_ps (op : Nat → Bool) (nr fa : Nat → Nat) (w : Nat → Int) (L : Nat → Option Int) : Nat → (Nat → Option Int)
  | 0 => L
  | a + 1 => bf_rx op nr fa w a (bf_ps op nr fa w L a)
def bf_it (op : Nat → Bool) (nr fa : Nat → Nat) (w : Nat → Int) (A : Nat) (L : Nat → Option Int) : Nat → (Nat → Option Int)
  | 0 => L
  | k + 1 => bf_ps op nr fa w (bf_it op nr fa w A L k) A
section
variable {op : Nat → Bool} {nr fa : Nat → Nat} {w : Nat → Int} {A : Nat}
theorem bf_rx_cs (a : Nat) (L : Nat → Option Int) : bf_rx op nr fa w a L = L ∨ ∃ x, op a = true ∧ L (nr a) = some x ∧ bf_lt (x + w a) (L (fa a)) = true ∧ bf_rx op nr fa w a L = bf_set L (fa a) (x + w a) := by
  unfold bf_rx
  by_cases h : op a = true
  · rw [if_pos h]
    cases hx : L (nr a) with
    | none => exact Or.inl rfl
    | some x =>
      by_cases h2 : bf_lt (x + w a) (L (fa a)) = true
      · exact Or.inr ⟨x, h, rfl, h2, by simp only [if_pos h2]⟩
      · exact Or.inl (by simp only [if_neg h2])
  · exact Or.inl (if_neg h)
theorem bf_rx_arc {a : Nat} {L : Nat → Option Int} {x : Int} (h : op a = true) (hx : L (nr a) = some x) : bf_ol (bf_rx op nr fa w a L (fa a)) (some (x + w a)) := by
  unfold bf_rx
  rw [if_pos h, hx]
  dsimp only
  by_cases h2 : bf_lt (x + w a) (L (fa a)) = true
  · rw [if_pos h2]
    show bf_ol (if fa a = fa a then some (x + w a) else _) _
    rw [if_pos rfl]; exact bf_ol_rf _
  · rw [if_neg h2]; exact bf_nlt h2
theorem bf_rx_le (a : Nat) (L : Nat → Option Int) (v : Nat) : bf_ol (bf_rx op nr fa w a L v) (L v) := by
  rcases bf_rx_cs (op := op) (nr := nr) (fa := fa) (w := w) a L with h | ⟨x, h1, h2, h3, h⟩
  · rw [h]; exact bf_ol_rf _
  · rw [h]
    unfold bf_set
    by_cases q : v = fa a
    · rw [if_pos q, q]; exact bf_lt_ol h3
    · rw [if_neg q]; exact bf_ol_rf _
theorem bf_ps_le' (L : Nat → Option Int) (v m : Nat) : ∀ d, bf_ol (bf_ps op nr fa w L (m + d) v) (bf_ps op nr fa w L m v)
  | 0 => bf_ol_rf _
  | d + 1 => bf_ol_tr (bf_rx_le _ _ v) (bf_ps_le' L v m d)
theorem bf_ps_le (L : Nat → Option Int) (v n : Nat) : bf_ol (bf_ps op nr fa w L n v) (L v) := by
  have := bf_ps_le' (op := op) (nr := nr) (fa := fa) (w := w) L v 0 n
  rw [Nat.zero_add] at this
  exact this
theorem bf_ps_arc {L : Nat → Option Int} {n a : Nat} {x : Int} (ha : a < n) (h : op a = true) (hx : L (nr a) = some x) : bf_ol (bf_ps op nr fa w L n (fa a)) (some (x + w a)) := by
  obtain ⟨x', e1, e2⟩ := bf_ps_le (op := op) (nr := nr) (fa := fa) (w := w) L (nr a) a x hx
  have h1 := bf_ps_le' (op := op) (nr := nr) (fa := fa) (w := w) L (fa a) (a + 1) (n - (a + 1))
  rw [show a + 1 + (n - (a + 1)) = n by omega] at h1
  have h2 : bf_ol (bf_ps op nr fa w L (a + 1) (fa a)) (some (x' + w a)) := bf_rx_arc h e1
  exact bf_ol_tr h1 (bf_ol_tr h2 (bf_ol_some.mpr (by omega)))
/-- a fixed point of all arcs -/
def bf_fx (op : Nat → Bool) (nr fa : Nat → Nat) (w : Nat → Int) (A : Nat) (F : Nat → Option Int) : Prop := ∀ a, a < A → op a = true → ∀ x, F (nr a) = some x → bf_ol (F (fa a)) (some (x + w a))
theorem bf_rx_lo {F L : Nat → Option Int} (hF : bf_fx op nr fa w A F) {a : Nat} (ha : a < A) (h : ∀ v, bf_ol (F v) (L v)) (v : Nat) : bf_ol (F v) (bf_rx op nr fa w a L v) := by
  rcases bf_rx_cs (op := op) (nr := nr) (fa := fa) (w := w) a L with e | ⟨x, h1, h2, h3, e⟩
  · rw [e]; exact h v
  · rw [e]
    unfold bf_set
    by_cases q : v = fa a
    · rw [if_pos q, q]
      obtain ⟨x0, e0, l0⟩ := h (nr a) x h2
      exact bf_ol_tr (hF a ha h1 x0 e0) (bf_ol_some.mpr (by omega))
    · rw [if_neg q]; exact h v
theorem bf_ps_lo {F L : Nat → Option Int} (hF : bf_fx op nr fa w A F) (h : ∀ v, bf_ol (F v) (L v)) : ∀ n, n ≤ A → ∀ v, bf_ol (F v) (bf_ps op nr fa w L n v)
  | 0, _, v => h v
  | n + 1, hn, v => bf_rx_lo hF (by omega) (bf_ps_lo hF h n (by omega)) v
theorem bf_it_lo {F L : Nat → Option Int} (hF : bf_fx op nr fa w A F) (h : ∀ v, bf_ol (F v) (L v)) : ∀ k v, bf_ol (F v) (bf_it op nr fa w A L k v)
  | 0, v => h v
  | k + 1, v => bf_ps_lo hF (bf_it_lo hF h k) A (Nat.le_refl _) v
/-- over a fixed point nothing moves -/
theorem bf_ps_fx {F : Nat → Option Int} (hF : bf_fx op nr fa w A F) (n : Nat) (hn : n ≤ A) : bf_ps op nr fa w F n = F := by
  funext v
  exact bf_ol_as (bf_ps_le F v n) (bf_ps_lo hF (fun v => bf_ol_rf _) n hn v)
-- Jacobi's labels
def bf_mn (r y : Option Int) (c : Int) : Option Int := match y with
  | none => r
  | some x => if bf_lt (x + c) r = true then some (x + c) else r
def bf_jr (op : Nat → Bool) (nr fa : Nat → Nat) (w : Nat → Int) (L : Nat → Option Int) (v : Nat) : Nat → Option Int
  | 0 => L v
  | a + 1 => if op a = true ∧ fa a = v then bf_mn (bf_jr op nr fa w L v a) (L (nr a)) (w a) else bf_jr op nr fa w L v a
def bf_D (op : Nat → Bool) (nr fa : Nat → Nat) (w : Nat → Int) (A : Nat) (L : Nat → Option Int) : Nat → Nat → Option Int
  | 0 => L
  | k + 1 => fun v => bf_jr op nr fa w (bf_D op nr fa w A L k) v A
theorem bf_mn_le (r y : Option Int) (c : Int) : bf_ol (bf_mn r y c) r := by
  unfold bf_mn
  cases y with
  | none => exact bf_ol_rf _
  | some x =>
    dsimp only
    split
    · rename_i h; exact bf_lt_ol h
    · exact bf_ol_rf _
theorem bf_mn_arc (r : Option Int) (x c : Int) : bf_ol (bf_mn r (some x) c) (some (x + c)) := by
  unfold bf_mn
  dsimp only
  split
  · exact bf_ol_rf _
  · rename_i h; exact bf_nlt h
theorem bf_mn_at (r y : Option Int) (c : Int) : bf_mn r y c = r ∨ ∃ x, y = some x ∧ bf_mn r y c = some (x + c) := by
  unfold bf_mn
  cases y with
  | none => exact Or.inl rfl
  | some x =>
    dsimp only
    split
    · exact Or.inr ⟨x, rfl, rfl⟩
    · exact Or.inl rfl
theorem bf_jr_le (L : Nat → Option Int) (v m : Nat) : ∀ d, bf_ol (bf_jr op nr fa w L v (m + d)) (bf_jr op nr fa w L v m)
  | 0 => bf_ol_rf _
  | d + 1 => by
    refine bf_ol_tr ?_ (bf_jr_le L v m d)
    show bf_ol (bf_jr op nr fa w L v (m + d + 1)) _
    rw [bf_jr]
    split
    · exact bf_mn_le _ _ _
    · exact bf_ol_rf _
theorem bf_jr_arc {L : Nat → Option Int} {v n a : Nat} {x : Int} (ha : a < n) (h : op a = true) (hv : fa a = v) (hx : L (nr a) = some x) : bf_ol (bf_jr op nr fa w L v n) (some (x + w a)) := by
  have h1 := bf_jr_le (op := op) (nr := nr) (fa := fa) (w := w) L v (a + 1) (n - (a + 1))
  rw [show a + 1 + (n - (a + 1)) = n by omega] at h1
  refine bf_ol_tr h1 ?_
  rw [bf_jr, if_pos ⟨h, hv⟩, hx]
  exact bf_mn_arc _ _ _
theorem bf_jr_at (L : Nat → Option Int) (v : Nat) : ∀ n, bf_jr op nr fa w L v n = L v ∨ ∃ a, a < n ∧ op a = true ∧ fa a = v ∧ ∃ x, L (nr a) = some x ∧ bf_jr op nr fa w L v n = some (x + w a)
  | 0 => Or.inl rfl
  | n + 1 => by
    have ih := bf_jr_at L v n
    rw [bf_jr]
    split
    · rename_i h
      rcases bf_mn_at (bf_jr op nr fa w L v n) (L (nr n)) (w n) with e | ⟨x, e1, e2⟩
      · rw [e]
        rcases ih with e | ⟨a, h1, h2⟩
        · exact Or.inl e
        · exact Or.inr ⟨a, by omega, h2⟩
      · exact Or.inr ⟨n, by omega, h.1, h.2, x, e1, e2⟩
    · rcases ih with e | ⟨a, h1, h2⟩
      · exact Or.inl e
      · exact Or.inr ⟨a, by omega, h2⟩
variable {L0 : Nat → Option Int}
theorem bf_D_le (k v : Nat) : bf_ol (bf_D op nr fa w A L0 (k + 1) v) (bf_D op nr fa w A L0 k v) := by
  have := bf_jr_le (op := op) (nr := nr) (fa := fa) (w := w) (bf_D op nr fa w A L0 k) v 0 A
  rw [Nat.zero_add] at this
  exact this
theorem bf_D_mono (i v : Nat) : ∀ d, bf_ol (bf_D op nr fa w A L0 (i + d) v) (bf_D op nr fa w A L0 i v)
  | 0 => bf_ol_rf _
  | d + 1 => bf_ol_tr (bf_D_le (i + d) v) (bf_D_mono i v d)
theorem bf_D_arc {k a : Nat} {x : Int} (ha : a < A) (h : op a = true) (hx : bf_D op nr fa w A L0 k (nr a) = some x) : bf_ol (bf_D op nr fa w A L0 (k + 1) (fa a)) (some (x + w a)) := bf_jr_arc ha h rfl hx
theorem bf_D_at (k v : Nat) : bf_D op nr fa w A L0 (k + 1) v = bf_D op nr fa w A L0 k v ∨ ∃ a, a < A ∧ op a = true ∧ fa a = v ∧ ∃ x, bf_D op nr fa w A L0 k (nr a) = some x ∧ bf_D op nr fa w A L0 (k + 1) v = some (x + w a) := bf_jr_at _ v A
/-- the passes are at least as good as Jacobi's -/
theorem bf_it_D : ∀ k v, bf_ol (bf_it op nr fa w A L0 k v) (bf_D op nr fa w A L0 k v)
  | 0, v => bf_ol_rf _
  | k + 1, v => by
    rcases bf_D_at (op := op) (nr := nr) (fa := fa) (w := w) (A := A) (L0 := L0) k v with e | ⟨a, ha, h1, rfl, x, e1, e2⟩
    · rw [e]
      exact bf_ol_tr (bf_ps_le _ v A) (bf_it_D k v)
    · rw [e2]
      obtain ⟨x', e3, l3⟩ := bf_it_D k (nr a) x e1
      exact bf_ol_tr (bf_ps_arc ha h1 e3) (bf_ol_some.mpr (by omega))
/-- a chain of labels that fell -/
theorem bf_chain {pi : Nat → Int} {N : Nat} (hpi : ∀ a, a < A → op a = true → pi (fa a) ≤ pi (nr a) + w a) (hN : ∀ a, a < A → op a = true → nr a < N ∧ fa a < N) :
    ∀ k v, ¬ bf_D op nr fa w A L0 (k + 1) v = bf_D op nr fa w A L0 k v → ∃ (u : Nat → Nat) (y : Nat → Int), u (k + 1) = v ∧ (∀ j, j ≤ k + 1 → u j < N ∧ bf_D op nr fa w A L0 j (u j) = some (y j)) ∧ (∀ j, j ≤ k → y j - pi (u j) ≤ y (j + 1) - pi (u (j + 1))) ∧ (∀ j, j ≤ k → ¬ bf_D op nr fa w A L0 (j + 1) (u (j + 1)) = bf_D op nr fa w A L0 j (u (j + 1)))
  | 0, v, hv => by
    rcases bf_D_at (op := op) (nr := nr) (fa := fa) (w := w) (A := A) (L0 := L0) 0 v with e | ⟨a, ha, h1, rfl, x, e1, e2⟩
    · exact absurd e hv
    · refine ⟨fun j => if j = 0 then nr a else fa a, fun j => if j = 0 then x else x + w a, rfl, ?_, ?_, ?_⟩
      · intro j hj
        rcases (show j = 0 ∨ j = 1 by omega) with rfl | rfl
        · exact ⟨(hN a ha h1).1, e1⟩
        · exact ⟨(hN a ha h1).2, e2⟩
      · intro j hj
        obtain rfl : j = 0 := by omega
        show x - pi (nr a) ≤ x + w a - pi (fa a)
        have := hpi a ha h1
        omega
      · intro j hj
        obtain rfl : j = 0 := by omega
        exact hv
  | k + 1, v, hv => by
    rcases bf_D_at (op := op) (nr := nr) (fa := fa) (w := w) (A := A) (L0 := L0) (k + 1) v with e | ⟨a, ha, h1, rfl, x, e1, e2⟩
    · exact absurd e hv
    · have hn : ¬ bf_D op nr fa w A L0 (k + 1) (nr a) = bf_D op nr fa w A L0 k (nr a) := by
        intro e
        apply hv
        refine bf_ol_as (bf_D_le _ _) ?_
        rw [e2]
        exact bf_D_arc ha h1 (e.symm.trans e1)
      obtain ⟨u, y, g1, g2, g3, g4⟩ := bf_chain hpi hN k (nr a) hn
      have hy : y (k + 1) = x := by
        have := (g2 (k + 1) (Nat.le_refl _)).2
        rw [g1, e1] at this
        exact (Option.some.inj this).symm
      refine ⟨fun j => if j ≤ k + 1 then u j else fa a, fun j => if j ≤ k + 1 then y j else x + w a, if_neg (show ¬ k + 1 + 1 ≤ k + 1 by omega), ?_, ?_, ?_⟩
      · intro j hj
        dsimp only
        by_cases q : j ≤ k + 1
        · rw [if_pos q, if_pos q]; exact g2 j q
        · rw [if_neg q, if_neg q, show j = k + 1 + 1 by omega]
          exact ⟨(hN a ha h1).2, e2⟩
      · intro j hj
        dsimp only
        by_cases q : j + 1 ≤ k + 1
        · rw [if_pos (show j ≤ k + 1 by omega), if_pos (show j ≤ k + 1 by omega), if_pos q, if_pos q]; exact g3 j (by omega)
        · rw [if_pos hj, if_pos hj, if_neg q, if_neg q, show j = k + 1 by omega, g1, hy]
          have := hpi a ha h1
          omega
      · intro j hj
        dsimp only
        by_cases q : j + 1 ≤ k + 1
        · rw [if_pos q]; exact g4 j (by omega)
        · rw [if_neg q, show j = k + 1 by omega]; exact hv
end
theorem bf_php : ∀ (n : Nat) (f : Nat → Nat), (∀ i, i ≤ n → f i < n) → ∃ i j, i < j ∧ j ≤ n ∧ f i = f j
  | 0, f, h => absurd (h 0 (Nat.le_refl _)) (Nat.not_lt_zero _)
  | n + 1, f, h => by
    by_cases hex : ∃ i, i ≤ n ∧ f i = f (n + 1)
    · obtain ⟨i, hi, e⟩ := hex
      exact ⟨i, n + 1, by omega, Nat.le_refl _, e⟩
    · have hne : ∀ i, i ≤ n → ¬ f i = f (n + 1) := fun i hi e => hex ⟨i, hi, e⟩
      have hm := h (n + 1) (Nat.le_refl _)
      obtain ⟨i, j, h1, h2, h3⟩ := bf_php n (fun i => if f i = n then f (n + 1) else f i) (by
        intro i hi
        have h0 := h i (by omega)
        have h9 := hne i hi
        split
        · rename_i q; omega
        · omega)
      refine ⟨i, j, h1, by omega, ?_⟩
      have hi := hne i (by omega)
      have hj := hne j (by omega)
      split at h3 <;> split at h3
      · omega
      · exact absurd h3.symm hj
      · exact absurd h3 hi
      · exact h3
section
variable {op : Nat → Bool} {nr fa : Nat → Nat} {w : Nat → Int} {A : Nat} {L0 : Nat → Option Int}
/-- with a potential, Jacobi's labels are final behind N - 1 passes -/
theorem bf_D_fin {pi : Nat → Int} {n : Nat} (hpi : ∀ a, a < A → op a = true → pi (fa a) ≤ pi (nr a) + w a) (hN : ∀ a, a < A → op a = true → nr a < n + 1 ∧ fa a < n + 1) (v : Nat) : bf_D op nr fa w A L0 (n + 1) v = bf_D op nr fa w A L0 n v := by
  apply Decidable.byContradiction
  intro hv
  obtain ⟨u, y, -, g2, g3, g4⟩ := bf_chain hpi hN n v hv
  obtain ⟨i, j, h1, h2, h3⟩ := bf_php (n + 1) u (fun i hi => (g2 i hi).1)
  have hm : ∀ d, i + d ≤ n + 1 → y i - pi (u i) ≤ y (i + d) - pi (u (i + d)) := by
    intro d
    induction d with
    | zero => intro _; exact Int.le_refl _
    | succ d ih =>
      intro hd
      have a1 := ih (by omega)
      have a2 := g3 (i + d) (by omega)
      rw [show i + (d + 1) = i + d + 1 by omega]
      omega
  have k1 := hm (j - i) (by omega)
  rw [show i + (j - i) = j by omega, ← h3] at k1
  have k2 := g4 (j - 1) (by omega)
  rw [show j - 1 + 1 = j by omega] at k2
  have k3 := bf_D_mono (op := op) (nr := nr) (fa := fa) (w := w) (A := A) (L0 := L0) i (u j) (j - 1 - i)
  rw [show i + (j - 1 - i) = j - 1 by omega, ← h3, (g2 i (by omega)).2] at k3
  obtain ⟨z, e1, l1⟩ := k3 (y i) rfl
  have k4 := bf_D_le (op := op) (nr := nr) (fa := fa) (w := w) (A := A) (L0 := L0) (j - 1) (u j)
  rw [show j - 1 + 1 = j by omega] at k4
  rw [(g2 j h2).2] at k2 k4
  rw [← h3, e1] at k2 k4
  rw [bf_ol_some] at k4
  have k5 : y j = z := by omega
  exact k2 (by rw [k5])
/-- THE PASSES END: with a potential, N - 1 passes come to a fixed point -/
theorem bf_end {pi : Nat → Int} {n : Nat} (hpi : ∀ a, a < A → op a = true → pi (fa a) ≤ pi (nr a) + w a) (hN : ∀ a, a < A → op a = true → nr a < n + 1 ∧ fa a < n + 1) : bf_fx op nr fa w A (bf_it op nr fa w A L0 n) := by
  have hF : bf_fx op nr fa w A (bf_D op nr fa w A L0 n) := by
    intro a ha h x hx
    rw [← bf_D_fin (L0 := L0) hpi hN (fa a)]
    exact bf_D_arc ha h hx
  have e : bf_it op nr fa w A L0 n = bf_D op nr fa w A L0 n := by
    funext v
    refine bf_ol_as (bf_it_D n v) (bf_it_lo hF (fun v => ?_) n v)
    have := bf_D_mono (op := op) (nr := nr) (fa := fa) (w := w) (A := A) (L0 := L0) 0 v n
    rw [Nat.zero_add] at this
    exact this
  rw [e]; exact hF
theorem bf_it_st {n : Nat} (h : bf_fx op nr fa w A (bf_it op nr fa w A L0 n)) : ∀ d, bf_it op nr fa w A L0 (n + d) = bf_it op nr fa w A L0 n
  | 0 => rfl
  | d + 1 => by
    show bf_ps op nr fa w (bf_it op nr fa w A L0 (n + d)) A = _
    rw [bf_it_st h d, bf_ps_fx h A (Nat.le_refl _)]
end
