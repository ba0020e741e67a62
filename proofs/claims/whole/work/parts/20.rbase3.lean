def rq_cue (hw fr to cap fl : Nat → Int32) (e : Nat) : Prop := (¬ hw (fr e).toNatClampNeg = 0 → hw (to e).toNatClampNeg = 0 → fl e = cap e) ∧ (hw (fr e).toNatClampNeg = 0 → ¬ hw (to e).toNatClampNeg = 0 → fl e = 0)
def rq_fc (hw fr to cap fl : Nat → Int32) (e : Nat) : Prop := (¬ fl e < 0 ∧ fl e ≤ cap e) ∧ rq_cue hw fr to cap fl e
def rq_cap (hw fr to cap : Nat → Int32) : Nat → Int64
  | 0 => 0
  | e + 1 => if ¬ hw (fr e).toNatClampNeg = 0 ∧ hw (to e).toNatClampNeg = 0 then rq_cap hw fr to cap e + (cap e).toInt64 else rq_cap hw fr to cap e + 0
def rq_sur (fr to fl : Nat → Int32) (x : Int32) : Nat → Int64
  | 0 => 0
  | e + 1 => if to e = x then rq_sur fr to fl x e + (fl e).toInt64 else if fr e = x then rq_sur fr to fl x e + (-fl e).toInt64 else rq_sur fr to fl x e + 0
def rq_pas (fr to fl : Nat → Int32) (E : Nat) (src snk : Int32) (v : Nat) : Prop := nI v = src ∨ nI v = snk ∨ rq_sur fr to fl (nI v) E = 0
def rq_poa (hw : Nat → Int32) (ct : Nat → Int64) (fr to cap uc fl : Nat → Int32) (a : Nat) : Prop := 0 < fp_lf cap fl a → ¬ hw (fp_bg fr to a).toNatClampNeg = 0 → ¬ hw (fp_en fr to a).toNatClampNeg = 0 → ct (fp_en fr to a).toNatClampNeg ≤ ct (fp_bg fr to a).toNatClampNeg + (fp_pr uc a).toInt64
def rq_ck (hw : Nat → Int32) (ct : Nat → Int64) (fr to cap uc fl : Nat → Int32) (N E : Nat) (src snk fw : Int32) : Prop := (((∀ e, e < E → rq_fc hw fr to cap fl e) ∧ (∀ v, v < N → rq_pas fr to fl E src snk v)) ∧ (∀ a, a < 2 * E → rq_poa hw ct fr to cap uc fl a)) ∧ rq_cap hw fr to cap E = fw.toInt64
theorem fq_and0 {P : Prop} {Q : Nat → Prop} {r : Int32} (h : fq_b P r) : fq_b (P ∧ ∀ v, v < 0 → Q v) r := by
  rcases h with ⟨h, p⟩ | ⟨h, p⟩
  · exact Or.inl ⟨h, p, fun v hv => absurd hv (Nat.not_lt_zero _)⟩
  · exact Or.inr ⟨h, fun q => p q.1⟩
section
variable {hw fr to cap : Nat → Int32} {i : Nat} {lv : Int64}
theorem cap_t (hlv : lv = rq_cap hw fr to cap i) (h1 : ¬ hw (fr i).toNatClampNeg = 0) (h2 : hw (to i).toNatClampNeg = 0) : lv + (cap i).toInt64 = rq_cap hw fr to cap (i + 1) := by rw [rq_cap, if_pos ⟨h1, h2⟩, hlv]
theorem cap_f1 (hlv : lv = rq_cap hw fr to cap i) (h1 : hw (fr i).toNatClampNeg = 0) : lv + 0 = rq_cap hw fr to cap (i + 1) := by rw [rq_cap, if_neg (fun h => h.1 h1), hlv]
theorem cap_f2 (hlv : lv = rq_cap hw fr to cap i) (h2 : ¬ hw (to i).toNatClampNeg = 0) : lv + 0 = rq_cap hw fr to cap (i + 1) := by rw [rq_cap, if_neg (fun h => h2 h.2), hlv]
end
