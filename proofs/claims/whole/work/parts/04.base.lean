section
variable {p : Program} {l : Launch} {e : Env} {R : Room} {s : State} {m : MethodId} {args : Array Value} {below : List Frame} {meth : Method} {c : Code} {H : Heap} {locs : List Loc} {cells slots : Nat} {Q : State → Prop} {pc : Nat} {ls : Array Slot} {rest : List Value}
theorem tp_i {x y : Int32} (h : x = y) (k : W p l e R s m args below meth c H locs cells slots Q (F0 m pc ls (.int y :: rest))) : W p l e R s m args below meth c H locs cells slots Q (F0 m pc ls (.int x :: rest)) := h ▸ k
theorem tp_l {x y : Int64} (h : x = y) (k : W p l e R s m args below meth c H locs cells slots Q (F0 m pc ls (.long y :: rest))) : W p l e R s m args below meth c H locs cells slots Q (F0 m pc ls (.long x :: rest)) := h ▸ k
end
def fp_bg (fr to : Nat → Int32) (a : Nat) : Int32 := if a % 2 = 0 then fr (a / 2) else to (a / 2)
def fp_en (fr to : Nat → Int32) (a : Nat) : Int32 := if a % 2 = 0 then to (a / 2) else fr (a / 2)
def fp_lf (cap fl : Nat → Int32) (a : Nat) : Int32 := if a % 2 = 0 then cap (a / 2) - fl (a / 2) else fl (a / 2)
def fp_pr (uc : Nat → Int32) (a : Nat) : Int32 := if a % 2 = 0 then uc (a / 2) else -uc (a / 2)
theorem sh1 {a : Nat} (h : a < 2 ^ 31) : nI a >>> ((1 : Int32) &&& 31) = nI (a / 2) := pk_shrN h _ 1 (by decide)
theorem and1 {a : Nat} (h : a < 2 ^ 31) : nI a &&& 1 = nI (a % 2) := pk_andN (m := 1) (by omega) 1 (by decide)
theorem nI_par0 (a : Nat) : nI (a % 2) = 0 ↔ a % 2 = 0 := by
  rw [← nI_0, nI_eq (by omega) (by omega)]
theorem isb0 (a : Nat) : (if a % 2 = 0 then (0 : Int32) else 1) = 0 ↔ a % 2 = 0 := by
  by_cases h : a % 2 = 0 <;> simp [h]
/-- an array's cell depends on its contents within its length alone -/
theorem arrV_congr (cA : ClassId) (n : Nat) {f g : Nat → Value} (h : ∀ j, j < n → f j = g j) : arrV cA n f = arrV cA n g := by
  unfold arrV
  congr 2
  funext j
  exact h j.val j.isLt
theorem va_P_conI {D : va_G} {cl : List vw_C} {ws : va_W} {H : Heap} (h : va_P D cl ws H) (k : Nat) {a : Nat} {cA : ClassId} {n : Nat} {f g : Nat → Int32} (hk : ws[k]? = some (a, .inl (cA, n, .inl f))) (hfg : ∀ j, j < n → f j = g j) : va_P D cl (ws.set k (a, .inl (cA, n, .inl g))) H := by
  intro i x hx
  by_cases hi : i = k
  · subst hi
    have hl : i < ws.length := (List.getElem?_eq_some_iff.mp hk).1
    rw [List.getElem?_set_self hl] at hx
    cases hx
    have := h i _ hk
    show H[a]? = some (vp_cell cA (n, .inl g))
    have h2 : H[a]? = some (vp_cell cA (n, .inl f)) := this
    rw [h2, vp_cell_i, vp_cell_i, arrV_congr cA n (fun j hj => by rw [hfg j hj])]
  · rw [List.getElem?_set_ne (fun q => hi q.symm)] at hx
    exact h i x hx
theorem va_D_con {A : Nat → Prop} {ws : va_W} (h : va_D A ws) (k : Nat) {a : Nat} {e0 e1 : va_E} (hk : ws[k]? = some (a, e0)) : va_D A (ws.set k (a, e1)) := h.set hk
theorem ix_lt {i E : Nat} (hi : i < 2 ^ 31) (hE : E < 2 ^ 31) (c : ¬ nI E ≤ nI i) : i < E := by
  rw [nI_leI hE hi] at c
  exact Nat.lt_of_not_le c
theorem ix_ge {i E : Nat} (hi : i < 2 ^ 31) (hE : E < 2 ^ 31) (c : nI E ≤ nI i) : E ≤ i := (nI_leI hE hi).mp c
def fp_sum (f : Nat → Int64) : Nat → Int64
  | 0 => 0
  | n + 1 => fp_sum f n + f n
def fp_sur (fr to fl : Nat → Int32) (x : Int32) : Nat → Int64
  | 0 => 0
  | e + 1 => if fr e = x then (if to e = x then fp_sur fr to fl x e + (fl e).toInt64 else fp_sur fr to fl x e) - (fl e).toInt64 else (if to e = x then fp_sur fr to fl x e + (fl e).toInt64 else fp_sur fr to fl x e)
def fp_send (fl : Nat → Int32) (a : Nat) (x : Int32) : Nat → Int32 := upd fl (a / 2) (fl (a / 2) + (if a % 2 = 0 then x else -x))
theorem fp_send_0 {fl : Nat → Int32} {a : Nat} {x : Int32} (h : a % 2 = 0) : upd fl (a / 2) (fl (a / 2) + x) = fp_send fl a x := by unfold fp_send; rw [if_pos h]
theorem fp_send_1 {fl : Nat → Int32} {a : Nat} {x : Int32} (h : ¬ a % 2 = 0) : upd fl (a / 2) (fl (a / 2) + -x) = fp_send fl a x := by unfold fp_send; rw [if_neg h]
