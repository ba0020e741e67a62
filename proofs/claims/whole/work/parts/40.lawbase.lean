/-! THE CLAIM OUT OF ONE WALK OF THE LAW'S BODY. Your part is whole_start (and what it stands on); all else here is the same for every law, but numbers. -/
def R_law : String := "FlowProofsLaw"
def lw_P (b : Addr) (xs : List Int32) (args : Array Value) (s : State) : Prop := args = #[.ref b] ∧ s.IntsAt b xs ∧ xs.length ≤ 2562 ∧ (Jvm.Cond.and given_1 narrow_1).before args s = true
def lw_Q (_ : Array Value) (s : State) (o : Outcome) (t : State) : Prop := o = .returned (some (.int 1)) ∧ Framed s o t [] 600000 7302250
def lw_Z (below : List Frame) (a : Array Value) (s : State) : State → Prop := fun t => ∃ o, t.status = .running ∧ Ended t below o ∧ lw_Q a s o t
/-- the law's own end, with 1 on the stack, nothing written that was there before, its room as the claim has it -/
theorem lw_ret {p : Program} {l : Launch} {e : Env} {s : State} {m : MethodId} {below : List Frame} {meth : Method} {c : Code} {b : Nat} (hx : p.tables.exec = Jvm.exec) (hb : c.code = code) (hr : meth.sig.returnType = ret) (hlocks : meth.locks = false) {pc : Nat} {H : Heap} {ls : Array Slot} (hdg : decode code pc = .ok (.ireturn, 1)) : W p l e room_1 s m #[Value.ref b] below meth c H [] 600000 7302250 (lw_Z below #[Value.ref b] s) (F0 m pc ls [.int 1]) := by
  intro T hT X
  obtain ⟨fs, hret, hrun, hended, hW, hframe⟩ := X.leave (v := some (.int 1)) (hlocks := hlocks) (fun h => by rw [hr] at h; cases h)
  have hmeth' : T.vm.method? m = some meth := X.method'
  refine ⟨T.setFrames fs, ?_, .returned (some (.int 1)), hrun, hended, rfl, ⟨_, rfl⟩, hW, hframe⟩
  jvm_step X.here [X.here.top, hx, hb, hdg, hmeth', hr, ret, narrow_b1]
  (try refine ⟨rfl, ?_⟩); (try refine ⟨rfl, ?_⟩)
  first | (intro acts; rw [hret _ acts rfl rfl rfl]) | rw [hret _ _ rfl rfl rfl]
  exact Steps.refl _
/-- what holds at the law's entry: the machine, the code, the tables' words (any of lw_tbl by 'hts w (by decide +kernel)'), the script of L ints xs at the cell b, what the Statement gives of the start (any of its parts by flat_of_before) -/
def lw_At (p : Program) (s : State) (m : MethodId) (meth : Method) (c : Code) (b L : Nat) (xs : Nat → Int32) : Prop :=
  p.tables.exec = Jvm.exec ∧ c.code = code ∧ meth.sig.returnType = ret ∧ c.maxLocals = 4 ∧ s.vm.findClass R_law = some m.cls ∧ (∀ w ∈ lw_tbl, w.before #[Value.ref b] s = true) ∧ va_X b L xs s s.heap ∧ b < s.heap.size ∧ meth.locks = false ∧ (Jvm.Cond.and given_1 narrow_1).before #[Value.ref b] s = true
/-- what the class and the reference hold in common -/
def LI (N M E : Nat) (fr to cap uc fl le : Nat → Int32) (src snk cir sol : Int32) (ac : Int64) (he ms mk : Int32) : Prop :=
  pq_net fr to cap uc N E ∧ E ≤ M ∧ M ≤ 40 ∧ (∀ j, E ≤ j → fl j = 0) ∧ ac = fp_sum (fun e => (cap e).toInt64) E ∧
  ((he = 0 ∧ src = -1 ∧ sol = 0) ∨ (he = 1 ∧ src = ms ∧ snk = mk ∧ fq_nf N src snk)) ∧
  (cir = 0 ↔ ∃ pi, pq_pot fr to cap uc (fun _ => 0) E pi) ∧ (cir = 0 → pq_good fr to cap uc fl E) ∧ (¬ cir = 0 → sol = 0) ∧ (sol = 0 ∨ sol = 1) ∧ (¬ sol = 0 → le = (fp_fab fr to cap uc N E src fl).1)
def LWd (cI cJ cZ : ClassId) (q z : Nat → Nat) (N M : Nat) (E : Nat) (fr to cap uc fl le fe lt ft wy : Nat → Int32) (wl src snk cir sol rd fw : Int32) (ct : Nat → Int64) (ta hw wz : Nat → Int32) (ac : Int64) (he ms mk : Int32) : va_W := [(q 0, .inr (2, [.ref (q 1), .ref (q 7), .ref (q 10), .ref (q 13), .int wl, .int src, .int snk, .int cir, .int sol, .int rd, .int fw])), (q 1, .inr (1, [.int (nI N), .ref (q 2), .ref (q 3), .ref (q 4), .ref (q 5), .ref (q 6), .int (nI E)])), (q 2, .inl (cI, M, .inl fr)), (q 3, .inl (cI, M, .inl to)), (q 4, .inl (cI, M, .inl cap)), (q 5, .inl (cI, M, .inl uc)), (q 6, .inl (cI, M, .inl fl)), (q 7, .inr (0, [.ref (q 8), .ref (q 9), .ref (q 1)])), (q 8, .inl (cI, N, .inl le)), (q 9, .inl (cI, N, .inl fe)), (q 10, .inr (0, [.ref (q 11), .ref (q 12), .ref (q 1)])), (q 11, .inl (cI, N, .inl lt)), (q 12, .inl (cI, N, .inl ft)), (q 13, .inl (cI, N, .inl wy)), (z 0, .inr (3, [.int (nI N), .int (nI M), .int (nI E), .ref (z 1), .ref (z 2), .ref (z 3), .ref (z 4), .ref (z 5), .long ac, .int he, .int ms, .int mk, .int sol, .int rd, .int fw, .ref (z 6), .ref (z 7), .ref (z 8), .ref (z 9)])), (z 1, .inl (cI, 40, .inl fr)), (z 2, .inl (cI, 40, .inl to)), (z 3, .inl (cI, 40, .inl cap)), (z 4, .inl (cI, 40, .inl uc)), (z 5, .inl (cI, 40, .inl fl)), (z 6, .inl (cJ, 12, .inr (.inl ct))), (z 7, .inl (cI, 12, .inl ta)), (z 8, .inl (cZ, 12, .inl hw)), (z 9, .inl (cI, 12, .inl wz))]
def LK (p : Program) (l : Launch) (e : Env) (s : State) (m : MethodId) (below : List Frame) (meth : Method) (c : Code) (b : Nat) (dC : Nat → ClassId) (dI : Nat → Nat → Nat) (cI cJ cZ : ClassId) (q z : Nat → Nat) (N M i : Nat) : Prop := ∀ (E : Nat) (fr to cap uc fl le fe lt ft wy : Nat → Int32) (wl src snk cir sol rd fw : Int32) (ct : Nat → Int64) (ta hw wz : Nat → Int32) (ac : Int64) (he ms mk : Int32), LI N M E fr to cap uc fl le src snk cir sol ac he ms mk → ∀ (H : Heap) (locs : List Loc), va_P (dC, dI) vwCl (LWd cI cJ cZ q z N M E fr to cap uc fl le fe lt ft wy wl src snk cir sol rd fw ct ta hw wz ac he ms mk) H → va_D (fun a : Nat => s.heap.size ≤ a) (LWd cI cJ cZ q z N M E fr to cap uc fl le fe lt ft wy wl src snk cir sol rd fw ct ta hw wz ac he ms mk) → va_S (fun a : Nat => s.heap.size ≤ a) s.heap H locs → ∀ (ls : Array Slot), lv_has ls 4 [(0, .ref b), (1, .ref (q 0)), (2, .ref (z 0)), (3, .int (nI i))] → W p l e room_1 s m #[Value.ref b] below meth c H locs 24 551 (lw_Z below #[Value.ref b] s) (F0 m 366 ls [])
theorem sum_congr {f g : Nat → Int64} : ∀ n, (∀ j, j < n → f j = g j) → fp_sum f n = fp_sum g n
  | 0, _ => rfl
  | n + 1, h => by rw [fp_sum, fp_sum, sum_congr n (fun j hj => h j (by omega)), h n (by omega)]
theorem good_0 {fr to cap uc : Nat → Int32} {N E : Nat} (h : pq_net fr to cap uc N E) (hp : ∃ pi, pq_pot fr to cap uc (fun _ => 0) E pi) : pq_good fr to cap uc (fun _ => 0) E := by
  refine ⟨fun e he => ?_, fun _ _ => rfl, hp⟩
  obtain ⟨-, -, -, c1, -⟩ := h.2.2.2 e he
  rw [i32_0]
  exact ⟨Int.le_refl _, c1⟩
theorem LI_edge {N M E : Nat} {fr to cap uc fl le le' : Nat → Int32} {src snk cir sol cu : Int32} {ac : Int64} {he ms mk a b cp cs : Int32} (hI : LI N M E fr to cap uc fl le src snk cir sol ac he ms mk) (hg : fq_eg N M E cap a b cp cs)
    (hc : (cu = 1 ∧ (fp_se false (upd fr E a) (upd to E b) (upd cap E cp) (upd uc E cs) (fun _ => 0) (2 * (E + 1)) N (fun _ => 0) (fun _ => 0)).2.2 = 0) ∨ (cu = 0 ∧ ¬ (fp_se false (upd fr E a) (upd to E b) (upd cap E cp) (upd uc E cs) (fun _ => 0) (2 * (E + 1)) N (fun _ => 0) (fun _ => 0)).2.2 = 0)) :
    LI N M (E + 1) (upd fr E a) (upd to E b) (upd cap E cp) (upd uc E cs) (fun _ => 0) le' src snk cu 0 (ac + cp.toInt64) he ms mk := by
  obtain ⟨hnet, hEM, hM40, hz, hac, hends, -, -, -, -, -⟩ := hI
  obtain ⟨g1, g2, g3, g4, g5, g6, g7, g8, g9⟩ := hg
  have hn : pq_net (upd fr E a) (upd to E b) (upd cap E cp) (upd uc E cs) N (E + 1) := by
    refine ⟨hnet.1, hnet.2.1, by omega, fun e he => ?_⟩
    by_cases q : e = E
    · rw [q, upd_s, upd_s, upd_s, upd_s]
      rw [i32_lt, i32_0] at g4
      rw [i32_le, show (1000000 : Int32).toInt = 1000000 by decide] at g5
      rw [i32_lt, show (-10000 : Int32).toInt = -10000 by decide] at g6
      rw [i32_le, show (10000 : Int32).toInt = 10000 by decide] at g7
      exact ⟨g1, g2, g3, by omega, g5, by omega, g7⟩
    · rw [upd_n _ _ q, upd_n _ _ q, upd_n _ _ q, upd_n _ _ q]
      exact hnet.2.2.2 e (by omega)
  have hcc := circ_c (fl := fun _ => 0) hn
  have hciff : cu = 0 ↔ ∃ pi, pq_pot (upd fr E a) (upd to E b) (upd cap E cp) (upd uc E cs) (fun _ => 0) (E + 1) pi := by
    rw [← hcc]
    rcases hc with ⟨c1, c2⟩ | ⟨c1, c2⟩
    · exact ⟨fun q => by rw [c1] at q; exact absurd q (by decide), fun q => absurd c2 q⟩
    · exact ⟨fun _ => c2, fun _ => c1⟩
  refine ⟨hn, by omega, hM40, fun _ _ => rfl, ?_, ?_, hciff, fun q => good_0 hn (hciff.mp q), fun _ => rfl, Or.inl rfl, fun q => absurd rfl q⟩
  · rw [fp_sum, upd_s, hac]
    congr 1
    exact sum_congr E (fun j hj => by rw [upd_n _ _ (by omega)])
  · rcases hends with ⟨e1, e2, -⟩ | e
    · exact Or.inl ⟨e1, e2, rfl⟩
    · exact Or.inr e
theorem LI_ends {N M E : Nat} {fr to cap uc fl le : Nat → Int32} {src snk cir sol : Int32} {ac : Int64} {he ms mk a b : Int32} (hI : LI N M E fr to cap uc fl le src snk cir sol ac he ms mk) (hg : fq_nf N a b) : LI N M E fr to cap uc (fun _ => 0) le a b cir 0 ac 1 a b := by
  obtain ⟨hnet, hEM, hM40, -, hac, -, hcir, -, -, -, -⟩ := hI
  exact ⟨hnet, hEM, hM40, fun _ _ => rfl, hac, Or.inr ⟨rfl, rfl, rfl, hg⟩, hcir, fun q => good_0 hnet (hcir.mp q), fun _ => rfl, Or.inl rfl, fun q => absurd rfl q⟩
theorem or_2 {c : Prop} {α : Type} {x y r s : α} (h1 : (c ∧ r = x) ∨ (¬ c ∧ r = y)) (h2 : (c ∧ s = x) ∨ (¬ c ∧ s = y)) : r = s := by
  rcases h1 with ⟨a, b⟩ | ⟨a, b⟩ <;> rcases h2 with ⟨d, e⟩ | ⟨d, e⟩
  · rw [b, e]
  · exact absurd a d
  · exact absurd d a
  · rw [b, e]
theorem or_2' {c : Prop} {α : Type} {x y r s : α} (h1 : (¬ c ∧ r = x) ∨ (c ∧ r = y)) (h2 : (¬ c ∧ s = x) ∨ (c ∧ s = y)) : r = s := by
  rcases h1 with ⟨a, b⟩ | ⟨a, b⟩ <;> rcases h2 with ⟨d, e⟩ | ⟨d, e⟩
  · rw [b, e]
  · exact absurd d a
  · exact absurd a d
  · rw [b, e]
/-- both runs end in the same round -/
theorem run_same {fo : Nat → Prop} {R j1 j2 : Nat} {r1 r2 s1 s2 : Int32} {X : Prop} (h1 : j1 ≤ R ∧ (∀ i, i < j1 → fo i) ∧ ((fo j1 ∧ j1 = R ∧ r1 = 1 ∧ s1 = 0) ∨ (¬ fo j1 ∧ r1 = 0 ∧ s1 = 1 ∧ X))) (h2 : j2 ≤ R ∧ (∀ i, i < j2 → fo i) ∧ ((fo j2 ∧ j2 = R ∧ r2 = 1 ∧ s2 = 0) ∨ (¬ fo j2 ∧ r2 = 0 ∧ s2 = 1))) : j2 = j1 ∧ r1 = r2 ∧ s2 = s1 := by
  obtain ⟨a1, a2, a3⟩ := h1
  obtain ⟨b1, b2, b3⟩ := h2
  rcases a3 with ⟨c1, c2, c3, c4⟩ | ⟨c1, c2, c3, -⟩ <;> rcases b3 with ⟨d1, d2, d3, d4⟩ | ⟨d1, d2, d3⟩
  · exact ⟨by omega, by rw [c3, d3], by rw [c4, d4]⟩
  · rcases Nat.lt_or_ge j2 j1 with q | q
    · exact absurd (a2 j2 q) d1
    · obtain rfl : j2 = j1 := by omega
      exact absurd c1 d1
  · rcases Nat.lt_or_ge j1 j2 with q | q
    · exact absurd (b2 j1 q) c1
    · obtain rfl : j2 = j1 := by omega
      exact absurd d1 c1
  · have : j2 = j1 := by
      rcases Nat.lt_trichotomy j1 j2 with q | q | q
      · exact absurd (b2 j1 q) c1
      · omega
      · exact absurd (a2 j2 q) d1
    exact ⟨this, by rw [c2, d2], by rw [c3, d3]⟩
theorem run_eq {N : Nat} {x src snk cir sol he ms mk : Int32} (hN : N < 1000) (hends : (he = 0 ∧ src = -1 ∧ sol = 0) ∨ (he = 1 ∧ src = ms ∧ snk = mk ∧ fq_nf N src snk)) (hcs : ¬ cir = 0 → sol = 0) (hy : (x < 0 ∨ 10000 < x) ∨ he = 0 ∨ ¬ sol = 0) :
    (if x < 0 ∨ 10000 < x then (-1 : Int32) else if src = -1 then 2 else if ¬ cir = 0 then 3 else 0) = (if x < 0 ∨ 10000 < x then -1 else if he = 0 then 2 else 0) := by
  by_cases c : x < 0 ∨ 10000 < x
  · rw [if_pos c, if_pos c]
  · rw [if_neg c, if_neg c]
    rcases hends with ⟨e1, e2, e3⟩ | ⟨e1, -, -, e4⟩
    · rw [if_pos e2, if_pos e1]
    · have h0 : ¬ he = 0 := by rw [e1]; decide
      rw [if_neg (vp_nm1 hN e4.1), if_neg h0]
      rcases hy with q | q | q
      · exact absurd q c
      · rw [e1] at q; exact absurd q (by decide)
      · rw [if_neg (fun z => q (hcs z))]
