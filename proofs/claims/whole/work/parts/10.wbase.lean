def fp_nx (fr to cap uc fl lt ft : Nat → Int32) (E : Nat) (v : Int32) : Int32 := fp_la (fp_tg fr to cap uc fl lt ft v) (2 * E) 0
def fp_nd (nx : Int32 → Int32) (fr to : Nat → Int32) (src : Int32) : Nat → Int32
  | 0 => src
  | j + 1 => fp_en fr to (nx (fp_nd nx fr to src j)).toNatClampNeg
def fp_ar (nx : Int32 → Int32) (fr to : Nat → Int32) (src : Int32) (j : Nat) : Nat := (nx (fp_nd nx fr to src j)).toNatClampNeg
/-- a way of K arcs from src to snk by nx -/
def fp_way (nx : Int32 → Int32) (fr to : Nat → Int32) (N E : Nat) (src snk : Int32) (K : Nat) : Prop :=
  0 < K ∧ K < N ∧ fp_nd nx fr to src K = snk ∧ ∀ j, j < K → ¬ fp_nd nx fr to src j = snk ∧ vp_in (fp_nd nx fr to src j) N ∧ nx (fp_nd nx fr to src j) = nI (fp_ar nx fr to src j) ∧ fp_ar nx fr to src j < 2 * E
def fp_mn (f : Nat → Int32) (ar : Nat → Nat) : Nat → Int32
  | 0 => f (ar 0)
  | n + 1 => if f (ar (n + 1)) < fp_mn f ar n then f (ar (n + 1)) else fp_mn f ar n
def fp_sd (fl : Nat → Int32) (ar : Nat → Nat) (x : Int32) : Nat → (Nat → Int32)
  | 0 => fl
  | i + 1 => fp_send (fp_sd fl ar x i) (ar i) x
theorem nI_nm1 {n : Nat} (h : n < 2 ^ 31) : ¬ nI n = -1 := fun q => nI_pos h (by rw [q]; decide)
/-- labels to the sink -/
def fp_lab (fr to cap uc : Nat → Int32) (N E : Nat) (snk : Int32) (fl : Nat → Int32) : (Nat → Int32) × (Nat → Int32) × Int32 := fp_se true fr to cap uc fl (2 * E) N (upd (fun _ => 2147483647) snk.toNatClampNeg 0) (fun _ => 0)
/-- labels from the source -/
def fp_fab (fr to cap uc : Nat → Int32) (N E : Nat) (src : Int32) (fl : Nat → Int32) : (Nat → Int32) × (Nat → Int32) × Int32 := fp_se false fr to cap uc fl (2 * E) N (upd (fun _ => 2147483647) src.toNatClampNeg 0) (fun _ => 0)
def fp_nxf (fr to cap uc : Nat → Int32) (N E : Nat) (snk : Int32) (fl : Nat → Int32) : Int32 → Int32 := fp_nx fr to cap uc fl (fp_lab fr to cap uc N E snk fl).1 (fp_lab fr to cap uc N E snk fl).2.1 E
def fp_K (fr to cap uc : Nat → Int32) (N E : Nat) (src snk : Int32) (fl : Nat → Int32) : Nat := ((fp_lab fr to cap uc N E snk fl).2.1 src.toNatClampNeg).toNatClampNeg
def fp_am (fr to cap uc : Nat → Int32) (N E : Nat) (src snk : Int32) (fl : Nat → Int32) : Int32 := fp_mn (fp_lf cap fl) (fp_ar (fp_nxf fr to cap uc N E snk fl) fr to src) (fp_K fr to cap uc N E src snk fl - 1)
def fp_nf (fr to cap uc : Nat → Int32) (N E : Nat) (src snk : Int32) (fl : Nat → Int32) : Nat → Int32 := fp_sd fl (fp_ar (fp_nxf fr to cap uc N E snk fl) fr to src) (fp_am fr to cap uc N E src snk fl) (fp_K fr to cap uc N E src snk fl)
def fp_F (fr to cap uc : Nat → Int32) (N E : Nat) (src snk : Int32) (fl : Nat → Int32) : Nat → (Nat → Int32)
  | 0 => fl
  | j + 1 => fp_nf fr to cap uc N E src snk (fp_F fr to cap uc N E src snk fl j)
def fp_W (fr to cap uc : Nat → Int32) (N E : Nat) (src snk : Int32) (fl : Nat → Int32) (fw : Int32) : Nat → Int32
  | 0 => fw
  | j + 1 => fp_W fr to cap uc N E src snk fl fw j + fp_am fr to cap uc N E src snk (fp_F fr to cap uc N E src snk fl j)
def fp_fo (fr to cap uc : Nat → Int32) (N E : Nat) (src snk : Int32) (fl : Nat → Int32) : Prop := ¬ (fp_lab fr to cap uc N E snk fl).1 src.toNatClampNeg = 2147483647
theorem tr_hg {g : Nat → Int32} {ar : Nat → Nat} {k : Nat} (hg : ∀ j, j < k → g j = nI (ar j)) : ∀ j, j < k + 1 → upd g k (nI (ar k)) j = nI (ar j) := by
  intro j hj
  unfold upd
  by_cases hjk : j = k
  · rw [if_pos hjk, hjk]
  · rw [if_neg hjk]; exact hg j (by omega)
