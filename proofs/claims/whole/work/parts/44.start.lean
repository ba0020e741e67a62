theorem fa_start_0 : ∀ w ∈ wsX20, w ∈ wsL_law := by decide +kernel
theorem fa_start_1 : Cond.classLink RL 7 RX2 ∈ wsL_law := by decide +kernel
theorem fa_start_2 : Cond.instantiable RX2 11 ∈ wsL_law := by decide +kernel
theorem fa_start_3 : Cond.initialized RX2 ∈ wsL_law := by decide +kernel
theorem fa_start_4 : Cond.methodLink RL 15 yX2_init ∈ wsL_law := by decide +kernel
theorem fa_start_5 : Cond.instanceMethod yX2_init ∈ wsL_law := by decide +kernel
theorem fa_start_6 : ∀ w ∈ wsX30, w ∈ wsL_law := by decide +kernel
theorem fa_start_7 : Cond.classLink RL 18 RX3 ∈ wsL_law := by decide +kernel
theorem fa_start_8 : Cond.instantiable RX3 19 ∈ wsL_law := by decide +kernel
theorem fa_start_9 : Cond.initialized RX3 ∈ wsL_law := by decide +kernel
theorem fa_start_10 : Cond.methodLink RL 20 yX3_init ∈ wsL_law := by decide +kernel
theorem fa_start_11 : Cond.instanceMethod yX3_init ∈ wsL_law := by decide +kernel
set_option maxHeartbeats 8000000 in
set_option maxRecDepth 100000 in
/-- THE LAW, from its entry -/
theorem whole_start {p : Program} {e : Env} {s : State} {m : MethodId} {below : List Frame} {meth : Method} {c : Code} (l : Launch) {b L : Nat} {xs : Nat → Int32} (hL : L ≤ 2562) (C0 : lw_At p s m meth c b L xs) : W p l e room_1 s m #[Value.ref b] below meth c s.heap [] 0 0 (lw_Z below #[Value.ref b] s) (entryFrame m ([Value.ref b] : List Value).toArray 4) := by
  have C1 := C0
  obtain ⟨hx, hb, hr, hml, hown, hts0, hX, hbl, hlocks, hgv⟩ := C0
  have hb : c.code = cL_law := hb
  have hown : s.vm.findClass RL = some m.cls := hown
  have hts : ∀ w ∈ wsL_law, w.before #[Value.ref b] s = true := fun w h => hts0 w (wsL_law_in w h)
  have hA : ∀ q : Nat, s.heap.size ≤ q → (fun a : Nat => s.heap.size ≤ a) q := fun _ h => h
  have hbA : ¬ (fun a : Nat => s.heap.size ≤ a) b := Nat.not_le.mpr hbl
  obtain ⟨c0, iS0, hKn0⟩ := u_known (C := RX0) (T := TX0) (N := 3) (n := 3) hts inlX0 (hts (.instantiable RX0 3) (by decide +kernel))
  obtain ⟨c1, iS1, hKn1⟩ := u_known (C := RX1) (T := TX1) (N := 7) (n := 7) hts inlX1 (hts (.instantiable RX1 7) (by decide +kernel))
  obtain ⟨c2, iS2, hKn2⟩ := u_known (C := RX2) (T := TX2) (N := 11) (n := 11) hts inlX2 (hts (.instantiable RX2 11) (by decide +kernel))
  obtain ⟨c3, iS3, hKn3⟩ := u_known (C := RX3) (T := TX3) (N := 19) (n := 19) hts inlX3 (hts (.instantiable RX3 19) (by decide +kernel))
  obtain ⟨dC, dI, hKc⟩ : ∃ (dC : Nat → ClassId) (dI : Nat → Nat → Nat), ∀ (k : Nat) (q : vw_C), vwCl[k]? = some q → u_Kn s q.1 q.2.1 q.2.2 (dC k) (dI k) := by
    refine ⟨fun k => if k = 0 then c0 else if k = 1 then c1 else if k = 2 then c2 else c3, fun k => if k = 0 then iS0 else if k = 1 then iS1 else if k = 2 then iS2 else iS3, ?_⟩
    intro k q hq
    match k, hq with
    | 0, hq => cases hq; exact hKn0
    | 1, hq => cases hq; exact hKn1
    | 2, hq => cases hq; exact hKn2
    | 3, hq => cases hq; exact hKn3
    | k + 4, hq => simp [vwCl] at hq
  obtain ⟨cI, hcI, hcI2⟩ := arr_ex (hts (.arrayClass .int) (by decide +kernel))
  obtain ⟨cJ, hcJ, hcJ2⟩ := arr_ex (hts (.arrayClass .long) (by decide +kernel))
  obtain ⟨cZ, hcZ, hcZ2⟩ := arr_ex (hts (.arrayClass .boolean) (by decide +kernel))
  have hS : va_S (fun a : Nat => s.heap.size ≤ a) s.heap s.heap [] := va_S.rf
  have hK : va_K (dC, dI) vwCl [(cI, .int), (cJ, .long), (cZ, .boolean)] s := by
    refine ⟨hKc, fun k q h => ?_⟩
    match k, h with
    | 0, h => cases h; exact ⟨hcI, hcI2⟩
    | 1, h => cases h; exact ⟨hcJ, hcJ2⟩
    | 2, h => cases h; exact ⟨hcZ, hcZ2⟩
    | k + 3, h => simp at h
  have hP : va_P (dC, dI) vwCl [] s.heap := fun k q h => by simp at h
  have hD : va_D (fun a : Nat => s.heap.size ≤ a) [] := ⟨fun i j p q h => by simp at h, fun k q h => by simp at h⟩
  obtain ⟨n0, hn0⟩ : ∃ n0 : Int32, n0 = (if 0 < L then xs 0 else 0) := ⟨_, rfl⟩
  obtain ⟨m0, hm0⟩ : ∃ m0 : Int32, m0 = (if 1 < L then xs 1 else 0) := ⟨_, rfl⟩
  obtain ⟨N, hN2, hN12, eNc, eNm⟩ := wi_ex2 n0
  obtain ⟨M, hM1, hM, eMc, eMm⟩ := wi_ex1 m0
  have hl := lv_entry ([.ref b]) (n := 4) (Nat.le_of_ble_eq_true rfl)
  rw [lg_entry_eq]
  generalize (lg_sl ([.ref b]) ++ List.replicate (4 - (lg_sl ([.ref b])).length) Slot.unset).toArray = ls at hl ⊢
  have hl : lv_has ls 4 [(0, .ref b)] := hl
  refine va_new (ci := 2) (fs := [.null, .null, .null, .null, .int 0, .int 0, .int 0, .int 0, .int 0, .int 0, .int 0]) (C := RX2) (T := TX2) (N := 11) hx hb hts fa_start_0 tyX2 tyX2_ok hown (hts _ fa_start_1) (hts _ fa_start_2) (hts _ fa_start_3) hK hP hD hS hA rfl (fun j hj => by rcases (show j = 0 ∨ j = 1 ∨ j = 2 ∨ j = 3 ∨ j = 4 ∨ j = 5 ∨ j = 6 ∨ j = 7 ∨ j = 8 ∨ j = 9 ∨ j = 10 by omega) with rfl | rfl | rfl | rfl | rfl | rfl | rfl | rfl | rfl | rfl | rfl <;> rfl) (show 0 + 1 ≤ 600000 by omega) (show 0 + 11 ≤ 7302250 by omega) dL_law_0 (fun h0 H hP hD hS => ?_)
  have hP : va_P (dC, dI) vwCl [(h0, .inr (2, [.null, .null, .null, .null, .int 0, .int 0, .int 0, .int 0, .int 0, .int 0, .int 0]))] H := hP
  have hD : va_D (fun a : Nat => s.heap.size ≤ a) [(h0, .inr (2, [.null, .null, .null, .null, .int 0, .int 0, .int 0, .int 0, .int 0, .int 0, .int 0]))] := hD
  refine lv_dup hx hb dL_law_3 rfl ?_
  refine lv_aload_n hx hb dL_law_4 rfl (lv_at hl 0 rfl) ?_
  refine lv_iconst (v := 0) hx hb dL_law_5 (by decide) ?_
  refine tp_i (y := nI 0) nI_0.symm ?_
  refine vp_callSi (W.runS (As := [.ref b, .int (nI 0)]) (rest := [.ref h0, .ref h0]) ⟨hx, hb, hml, hown, hts⟩ (k_cell l b L xs 0 (by omega) hL) (va_cwS 2 hts gL_law_L_cell rfl rfl rfl (by decide +kernel) ⟨Nat.le_of_ble_eq_true rfl, Nat.le_of_ble_eq_true rfl⟩) ⟨fun a U g mk q => by obtain ⟨q0, q1, q2⟩ := q; exact ⟨q0, q1, va_X.moved (u := U) (U := U.calling g mk a) (Vm.Alike.refl U.vm) q2⟩, fun U hU hW => ⟨rfl, by rw [hU]; exact Nat.lt_of_lt_of_le hbl hS.1, by rw [hU]; exact va_X.moved hW.alike (hX.kept (hS.2.1 b hbl hbA))⟩⟩ rfl rfl hl.1 rfl (lv_room (Nat.le_of_ble_eq_true rfl)) dL_law_6 ⟨(show (0 + 1) + 0 ≤ 600000 by omega), (show (0 + 11) + 0 ≤ 7302250 by omega)⟩) (fun r_6 hw_6 => ?_)
  rw [← hn0] at hw_6
  have hv_6 : n0 = r_6 := hw_6.symm
  subst hv_6
  refine lv_aload_n hx hb dL_law_9 rfl (lv_at hl 0 rfl) ?_
  refine lv_iconst (v := 1) hx hb dL_law_10 (by decide) ?_
  refine tp_i (y := nI 1) rfl ?_
  refine vp_callSi (W.runS (As := [.ref b, .int (nI 1)]) (rest := [.int n0, .ref h0, .ref h0]) ⟨hx, hb, hml, hown, hts⟩ (k_cell l b L xs 1 (by omega) hL) (va_cwS 2 hts gL_law_L_cell rfl rfl rfl (by decide +kernel) ⟨Nat.le_of_ble_eq_true rfl, Nat.le_of_ble_eq_true rfl⟩) ⟨fun a U g mk q => by obtain ⟨q0, q1, q2⟩ := q; exact ⟨q0, q1, va_X.moved (u := U) (U := U.calling g mk a) (Vm.Alike.refl U.vm) q2⟩, fun U hU hW => ⟨rfl, by rw [hU]; exact Nat.lt_of_lt_of_le hbl hS.1, by rw [hU]; exact va_X.moved hW.alike (hX.kept (hS.2.1 b hbl hbA))⟩⟩ rfl rfl hl.1 rfl (lv_room (Nat.le_of_ble_eq_true rfl)) dL_law_11 ⟨(show (0 + 1) + 0 ≤ 600000 by omega), (show (0 + 11) + 0 ≤ 7302250 by omega)⟩) (fun r_11 hw_11 => ?_)
  rw [← hm0] at hw_11
  have hv_11 : m0 = r_11 := hw_11.symm
  subst hv_11
  have hPc := hP.sub (ws' := [(h0, .inr (2, [.null, .null, .null, .null, .int 0, .int 0, .int 0, .int 0, .int 0, .int 0, .int 0]))]) [0] rfl
  have hDc := hD.sub (ws' := [(h0, .inr (2, [.null, .null, .null, .null, .int 0, .int 0, .int 0, .int 0, .int 0, .int 0, .int 0]))]) [0] (by decide) rfl
  have hFc := va_free (wc := [(h0, .inr (2, [.null, .null, .null, .null, .int 0, .int 0, .int 0, .int 0, .int 0, .int 0, .int 0]))]) hD hS hA [0] rfl
  refine va_callv (va_runI (As := [.int n0, .int m0]) (rest := [.ref h0]) ⟨hx, hb, hml, hown, hts⟩ (k_FlowProofs_init l dC dI cI cJ cZ h0 N M n0 m0 H.size hM hN12 eNc eMc) (cwI 2 hts gL_law_X2_init rfl rfl rfl (hts _ fa_start_3) (hts _ fa_start_4) (hts _ fa_start_5) rfl (by decide +kernel) ⟨Nat.le_of_ble_eq_true rfl, Nat.le_of_ble_eq_true rfl⟩) ⟨fun a U g mk q => by obtain ⟨q0, q1, qP, qK, qD⟩ := q; exact ⟨q0, q1, qP, va_K.moved (u := U) (U := U.calling g mk a) (Vm.Alike.refl U.vm) qK, qD⟩, fun U hU hW => ⟨rfl, by rw [hU], by rw [hU]; exact hPc, va_K.moved hW.alike hK, hDc.weaken (fun _ _ _ _ => trivial)⟩⟩ rfl rfl hl.1 rfl (lv_room (Nat.le_of_ble_eq_true rfl)) dL_law_14 ⟨(show (0 + 1) + 13 ≤ 600000 by omega), (show (0 + 11) + 273 ≤ 7302250 by omega)⟩) hS (fun q _ h => hFc q h) hFc (fun cu t H1 locs ht hvm hw_14 hB hz1 hk1 hS => ?_)
  obtain ⟨hP1, hK1, hD1⟩ := hB
  rw [ht] at hP1
  obtain ⟨hP, hD⟩ := va_join (wr := []) (w1 := [(h0, .inr (2, [.ref (cu 1), .ref (cu 7), .ref (cu 10), .ref (cu 13), .int 0, .int (-1), .int (-1), .int 0, .int 0, .int 0, .int 0])), (cu 1, .inr (1, [.int (nI N), .ref (cu 2), .ref (cu 3), .ref (cu 4), .ref (cu 5), .ref (cu 6), .int 0])), (cu 2, .inl (cI, M, .inl (fun _ => 0))), (cu 3, .inl (cI, M, .inl (fun _ => 0))), (cu 4, .inl (cI, M, .inl (fun _ => 0))), (cu 5, .inl (cI, M, .inl (fun _ => 0))), (cu 6, .inl (cI, M, .inl (fun _ => 0))), (cu 7, .inr (0, [.ref (cu 8), .ref (cu 9), .ref (cu 1)])), (cu 8, .inl (cI, N, .inl (fun _ => 0))), (cu 9, .inl (cI, N, .inl (fun _ => 0))), (cu 10, .inr (0, [.ref (cu 11), .ref (cu 12), .ref (cu 1)])), (cu 11, .inl (cI, N, .inl (fun _ => 0))), (cu 12, .inl (cI, N, .inl (fun _ => 0))), (cu 13, .inl (cI, N, .inl (fun _ => 0)))]) hP hD [0] [] rfl rfl (by decide) (by decide) hk1 hFc hP1 hD1
  generalize H1 = H at hP hS ⊢
  have hP := hP.sub (ws' := [(h0, .inr (2, [.ref (cu 1), .ref (cu 7), .ref (cu 10), .ref (cu 13), .int 0, .int (-1), .int (-1), .int 0, .int 0, .int 0, .int 0])), (cu 1, .inr (1, [.int (nI N), .ref (cu 2), .ref (cu 3), .ref (cu 4), .ref (cu 5), .ref (cu 6), .int 0])), (cu 2, .inl (cI, M, .inl (fun _ => 0))), (cu 3, .inl (cI, M, .inl (fun _ => 0))), (cu 4, .inl (cI, M, .inl (fun _ => 0))), (cu 5, .inl (cI, M, .inl (fun _ => 0))), (cu 6, .inl (cI, M, .inl (fun _ => 0))), (cu 7, .inr (0, [.ref (cu 8), .ref (cu 9), .ref (cu 1)])), (cu 8, .inl (cI, N, .inl (fun _ => 0))), (cu 9, .inl (cI, N, .inl (fun _ => 0))), (cu 10, .inr (0, [.ref (cu 11), .ref (cu 12), .ref (cu 1)])), (cu 11, .inl (cI, N, .inl (fun _ => 0))), (cu 12, .inl (cI, N, .inl (fun _ => 0))), (cu 13, .inl (cI, N, .inl (fun _ => 0)))]) [0, 1, 2, 3, 4, 5, 6, 7, 8, 9, 10, 11, 12, 13] rfl
  have hD := hD.sub (ws' := [(h0, .inr (2, [.ref (cu 1), .ref (cu 7), .ref (cu 10), .ref (cu 13), .int 0, .int (-1), .int (-1), .int 0, .int 0, .int 0, .int 0])), (cu 1, .inr (1, [.int (nI N), .ref (cu 2), .ref (cu 3), .ref (cu 4), .ref (cu 5), .ref (cu 6), .int 0])), (cu 2, .inl (cI, M, .inl (fun _ => 0))), (cu 3, .inl (cI, M, .inl (fun _ => 0))), (cu 4, .inl (cI, M, .inl (fun _ => 0))), (cu 5, .inl (cI, M, .inl (fun _ => 0))), (cu 6, .inl (cI, M, .inl (fun _ => 0))), (cu 7, .inr (0, [.ref (cu 8), .ref (cu 9), .ref (cu 1)])), (cu 8, .inl (cI, N, .inl (fun _ => 0))), (cu 9, .inl (cI, N, .inl (fun _ => 0))), (cu 10, .inr (0, [.ref (cu 11), .ref (cu 12), .ref (cu 1)])), (cu 11, .inl (cI, N, .inl (fun _ => 0))), (cu 12, .inl (cI, N, .inl (fun _ => 0))), (cu 13, .inl (cI, N, .inl (fun _ => 0)))]) [0, 1, 2, 3, 4, 5, 6, 7, 8, 9, 10, 11, 12, 13] (by decide) rfl
  refine lv_astore_n (lv' := [(1, .ref h0), (0, .ref b)]) hx hb dL_law_17 rfl hl (by decide) rfl (fun ls hl => ?_)
  refine va_new (ci := 3) (fs := [.int 0, .int 0, .int 0, .null, .null, .null, .null, .null, .long 0, .int 0, .int 0, .int 0, .int 0, .int 0, .int 0, .null, .null, .null, .null]) (C := RX3) (T := TX3) (N := 19) hx hb hts fa_start_6 tyX3 tyX3_ok hown (hts _ fa_start_7) (hts _ fa_start_8) (hts _ fa_start_9) hK hP hD hS hA rfl (fun j hj => by rcases (show j = 0 ∨ j = 1 ∨ j = 2 ∨ j = 3 ∨ j = 4 ∨ j = 5 ∨ j = 6 ∨ j = 7 ∨ j = 8 ∨ j = 9 ∨ j = 10 ∨ j = 11 ∨ j = 12 ∨ j = 13 ∨ j = 14 ∨ j = 15 ∨ j = 16 ∨ j = 17 ∨ j = 18 by omega) with rfl | rfl | rfl | rfl | rfl | rfl | rfl | rfl | rfl | rfl | rfl | rfl | rfl | rfl | rfl | rfl | rfl | rfl | rfl <;> rfl) (show ((0 + 1) + 13) + 1 ≤ 600000 by omega) (show ((0 + 11) + 273) + 19 ≤ 7302250 by omega) dL_law_18 (fun h1 H hP hD hS => ?_)
  have hP : va_P (dC, dI) vwCl [(h0, .inr (2, [.ref (cu 1), .ref (cu 7), .ref (cu 10), .ref (cu 13), .int 0, .int (-1), .int (-1), .int 0, .int 0, .int 0, .int 0])), (cu 1, .inr (1, [.int (nI N), .ref (cu 2), .ref (cu 3), .ref (cu 4), .ref (cu 5), .ref (cu 6), .int 0])), (cu 2, .inl (cI, M, .inl (fun _ => 0))), (cu 3, .inl (cI, M, .inl (fun _ => 0))), (cu 4, .inl (cI, M, .inl (fun _ => 0))), (cu 5, .inl (cI, M, .inl (fun _ => 0))), (cu 6, .inl (cI, M, .inl (fun _ => 0))), (cu 7, .inr (0, [.ref (cu 8), .ref (cu 9), .ref (cu 1)])), (cu 8, .inl (cI, N, .inl (fun _ => 0))), (cu 9, .inl (cI, N, .inl (fun _ => 0))), (cu 10, .inr (0, [.ref (cu 11), .ref (cu 12), .ref (cu 1)])), (cu 11, .inl (cI, N, .inl (fun _ => 0))), (cu 12, .inl (cI, N, .inl (fun _ => 0))), (cu 13, .inl (cI, N, .inl (fun _ => 0))), (h1, .inr (3, [.int 0, .int 0, .int 0, .null, .null, .null, .null, .null, .long 0, .int 0, .int 0, .int 0, .int 0, .int 0, .int 0, .null, .null, .null, .null]))] H := hP
  have hD : va_D (fun a : Nat => s.heap.size ≤ a) [(h0, .inr (2, [.ref (cu 1), .ref (cu 7), .ref (cu 10), .ref (cu 13), .int 0, .int (-1), .int (-1), .int 0, .int 0, .int 0, .int 0])), (cu 1, .inr (1, [.int (nI N), .ref (cu 2), .ref (cu 3), .ref (cu 4), .ref (cu 5), .ref (cu 6), .int 0])), (cu 2, .inl (cI, M, .inl (fun _ => 0))), (cu 3, .inl (cI, M, .inl (fun _ => 0))), (cu 4, .inl (cI, M, .inl (fun _ => 0))), (cu 5, .inl (cI, M, .inl (fun _ => 0))), (cu 6, .inl (cI, M, .inl (fun _ => 0))), (cu 7, .inr (0, [.ref (cu 8), .ref (cu 9), .ref (cu 1)])), (cu 8, .inl (cI, N, .inl (fun _ => 0))), (cu 9, .inl (cI, N, .inl (fun _ => 0))), (cu 10, .inr (0, [.ref (cu 11), .ref (cu 12), .ref (cu 1)])), (cu 11, .inl (cI, N, .inl (fun _ => 0))), (cu 12, .inl (cI, N, .inl (fun _ => 0))), (cu 13, .inl (cI, N, .inl (fun _ => 0))), (h1, .inr (3, [.int 0, .int 0, .int 0, .null, .null, .null, .null, .null, .long 0, .int 0, .int 0, .int 0, .int 0, .int 0, .int 0, .null, .null, .null, .null]))] := hD
  refine lv_dup hx hb dL_law_21 rfl ?_
  refine lv_aload_n hx hb dL_law_22 rfl (lv_at hl 1 rfl) ?_
  refine lv_iconst (v := 0) hx hb dL_law_23 (by decide) ?_
  refine tp_i (y := nI 0) nI_0.symm ?_
  refine vp_callSi (W.runS (As := [.ref b, .int (nI 0)]) (rest := [.ref h1, .ref h1]) ⟨hx, hb, hml, hown, hts⟩ (k_cell l b L xs 0 (by omega) hL) (va_cwS 2 hts gL_law_L_cell rfl rfl rfl (by decide +kernel) ⟨Nat.le_of_ble_eq_true rfl, Nat.le_of_ble_eq_true rfl⟩) ⟨fun a U g mk q => by obtain ⟨q0, q1, q2⟩ := q; exact ⟨q0, q1, va_X.moved (u := U) (U := U.calling g mk a) (Vm.Alike.refl U.vm) q2⟩, fun U hU hW => ⟨rfl, by rw [hU]; exact Nat.lt_of_lt_of_le hbl hS.1, by rw [hU]; exact va_X.moved hW.alike (hX.kept (hS.2.1 b hbl hbA))⟩⟩ rfl rfl hl.1 rfl (lv_room (Nat.le_of_ble_eq_true rfl)) dL_law_24 ⟨(show (((0 + 1) + 13) + 1) + 0 ≤ 600000 by omega), (show (((0 + 11) + 273) + 19) + 0 ≤ 7302250 by omega)⟩) (fun r_24 hw_24 => ?_)
  rw [← hn0] at hw_24
  have hv_24 : n0 = r_24 := hw_24.symm
  subst hv_24
  refine lv_aload_n hx hb dL_law_27 rfl (lv_at hl 1 rfl) ?_
  refine lv_iconst (v := 1) hx hb dL_law_28 (by decide) ?_
  refine tp_i (y := nI 1) rfl ?_
  refine vp_callSi (W.runS (As := [.ref b, .int (nI 1)]) (rest := [.int n0, .ref h1, .ref h1]) ⟨hx, hb, hml, hown, hts⟩ (k_cell l b L xs 1 (by omega) hL) (va_cwS 2 hts gL_law_L_cell rfl rfl rfl (by decide +kernel) ⟨Nat.le_of_ble_eq_true rfl, Nat.le_of_ble_eq_true rfl⟩) ⟨fun a U g mk q => by obtain ⟨q0, q1, q2⟩ := q; exact ⟨q0, q1, va_X.moved (u := U) (U := U.calling g mk a) (Vm.Alike.refl U.vm) q2⟩, fun U hU hW => ⟨rfl, by rw [hU]; exact Nat.lt_of_lt_of_le hbl hS.1, by rw [hU]; exact va_X.moved hW.alike (hX.kept (hS.2.1 b hbl hbA))⟩⟩ rfl rfl hl.1 rfl (lv_room (Nat.le_of_ble_eq_true rfl)) dL_law_29 ⟨(show (((0 + 1) + 13) + 1) + 0 ≤ 600000 by omega), (show (((0 + 11) + 273) + 19) + 0 ≤ 7302250 by omega)⟩) (fun r_29 hw_29 => ?_)
  rw [← hm0] at hw_29
  have hv_29 : m0 = r_29 := hw_29.symm
  subst hv_29
  have hPc := hP.sub (ws' := [(h1, .inr (3, [.int 0, .int 0, .int 0, .null, .null, .null, .null, .null, .long 0, .int 0, .int 0, .int 0, .int 0, .int 0, .int 0, .null, .null, .null, .null]))]) [14] rfl
  have hDc := hD.sub (ws' := [(h1, .inr (3, [.int 0, .int 0, .int 0, .null, .null, .null, .null, .null, .long 0, .int 0, .int 0, .int 0, .int 0, .int 0, .int 0, .null, .null, .null, .null]))]) [14] (by decide) rfl
  have hFc := va_free (wc := [(h1, .inr (3, [.int 0, .int 0, .int 0, .null, .null, .null, .null, .null, .long 0, .int 0, .int 0, .int 0, .int 0, .int 0, .int 0, .null, .null, .null, .null]))]) hD hS hA [14] rfl
  refine va_callv (va_runI (As := [.int n0, .int m0]) (rest := [.ref h1]) ⟨hx, hb, hml, hown, hts⟩ (k_Model_init l dC dI cI cJ cZ h1 N M n0 m0 H.size eNm eMm) (cwI 2 hts gL_law_X3_init rfl rfl rfl (hts _ fa_start_9) (hts _ fa_start_10) (hts _ fa_start_11) rfl (by decide +kernel) ⟨Nat.le_of_ble_eq_true rfl, Nat.le_of_ble_eq_true rfl⟩) ⟨fun a U g mk q => by obtain ⟨q0, q1, qP, qK, qD⟩ := q; exact ⟨q0, q1, qP, va_K.moved (u := U) (U := U.calling g mk a) (Vm.Alike.refl U.vm) qK, qD⟩, fun U hU hW => ⟨rfl, by rw [hU], by rw [hU]; exact hPc, va_K.moved hW.alike hK, hDc.weaken (fun _ _ _ _ => trivial)⟩⟩ rfl rfl hl.1 rfl (lv_room (Nat.le_of_ble_eq_true rfl)) dL_law_32 ⟨(show (((0 + 1) + 13) + 1) + 9 ≤ 600000 by omega), (show (((0 + 11) + 273) + 19) + 248 ≤ 7302250 by omega)⟩) hS (fun q _ h => hFc q h) hFc (fun mu t H1 locs ht hvm hw_32 hB hz1 hk1 hS => ?_)
  obtain ⟨hP1, hK1, hD1⟩ := hB
  rw [ht] at hP1
  obtain ⟨hP, hD⟩ := va_join (wr := [(h0, .inr (2, [.ref (cu 1), .ref (cu 7), .ref (cu 10), .ref (cu 13), .int 0, .int (-1), .int (-1), .int 0, .int 0, .int 0, .int 0])), (cu 1, .inr (1, [.int (nI N), .ref (cu 2), .ref (cu 3), .ref (cu 4), .ref (cu 5), .ref (cu 6), .int 0])), (cu 2, .inl (cI, M, .inl (fun _ => 0))), (cu 3, .inl (cI, M, .inl (fun _ => 0))), (cu 4, .inl (cI, M, .inl (fun _ => 0))), (cu 5, .inl (cI, M, .inl (fun _ => 0))), (cu 6, .inl (cI, M, .inl (fun _ => 0))), (cu 7, .inr (0, [.ref (cu 8), .ref (cu 9), .ref (cu 1)])), (cu 8, .inl (cI, N, .inl (fun _ => 0))), (cu 9, .inl (cI, N, .inl (fun _ => 0))), (cu 10, .inr (0, [.ref (cu 11), .ref (cu 12), .ref (cu 1)])), (cu 11, .inl (cI, N, .inl (fun _ => 0))), (cu 12, .inl (cI, N, .inl (fun _ => 0))), (cu 13, .inl (cI, N, .inl (fun _ => 0)))]) (w1 := [(h1, .inr (3, [.int (nI N), .int (nI M), .int 0, .ref (mu 1), .ref (mu 2), .ref (mu 3), .ref (mu 4), .ref (mu 5), .long 0, .int 0, .int 0, .int 0, .int 0, .int 0, .int 0, .ref (mu 6), .ref (mu 7), .ref (mu 8), .ref (mu 9)])), (mu 1, .inl (cI, 40, .inl (fun _ => 0))), (mu 2, .inl (cI, 40, .inl (fun _ => 0))), (mu 3, .inl (cI, 40, .inl (fun _ => 0))), (mu 4, .inl (cI, 40, .inl (fun _ => 0))), (mu 5, .inl (cI, 40, .inl (fun _ => 0))), (mu 6, .inl (cJ, 12, .inr (.inl (fun _ => 0)))), (mu 7, .inl (cI, 12, .inl (fun _ => 0))), (mu 8, .inl (cZ, 12, .inl (fun _ => 0))), (mu 9, .inl (cI, 12, .inl (fun _ => 0)))]) hP hD [14] [0, 1, 2, 3, 4, 5, 6, 7, 8, 9, 10, 11, 12, 13] rfl rfl (by decide) (by decide) hk1 hFc hP1 hD1
  generalize H1 = H at hP hS ⊢
  have hP := hP.sub (ws' := [(h0, .inr (2, [.ref (cu 1), .ref (cu 7), .ref (cu 10), .ref (cu 13), .int 0, .int (-1), .int (-1), .int 0, .int 0, .int 0, .int 0])), (cu 1, .inr (1, [.int (nI N), .ref (cu 2), .ref (cu 3), .ref (cu 4), .ref (cu 5), .ref (cu 6), .int 0])), (cu 2, .inl (cI, M, .inl (fun _ => 0))), (cu 3, .inl (cI, M, .inl (fun _ => 0))), (cu 4, .inl (cI, M, .inl (fun _ => 0))), (cu 5, .inl (cI, M, .inl (fun _ => 0))), (cu 6, .inl (cI, M, .inl (fun _ => 0))), (cu 7, .inr (0, [.ref (cu 8), .ref (cu 9), .ref (cu 1)])), (cu 8, .inl (cI, N, .inl (fun _ => 0))), (cu 9, .inl (cI, N, .inl (fun _ => 0))), (cu 10, .inr (0, [.ref (cu 11), .ref (cu 12), .ref (cu 1)])), (cu 11, .inl (cI, N, .inl (fun _ => 0))), (cu 12, .inl (cI, N, .inl (fun _ => 0))), (cu 13, .inl (cI, N, .inl (fun _ => 0))), (h1, .inr (3, [.int (nI N), .int (nI M), .int 0, .ref (mu 1), .ref (mu 2), .ref (mu 3), .ref (mu 4), .ref (mu 5), .long 0, .int 0, .int 0, .int 0, .int 0, .int 0, .int 0, .ref (mu 6), .ref (mu 7), .ref (mu 8), .ref (mu 9)])), (mu 1, .inl (cI, 40, .inl (fun _ => 0))), (mu 2, .inl (cI, 40, .inl (fun _ => 0))), (mu 3, .inl (cI, 40, .inl (fun _ => 0))), (mu 4, .inl (cI, 40, .inl (fun _ => 0))), (mu 5, .inl (cI, 40, .inl (fun _ => 0))), (mu 6, .inl (cJ, 12, .inr (.inl (fun _ => 0)))), (mu 7, .inl (cI, 12, .inl (fun _ => 0))), (mu 8, .inl (cZ, 12, .inl (fun _ => 0))), (mu 9, .inl (cI, 12, .inl (fun _ => 0)))]) [0, 1, 2, 3, 4, 5, 6, 7, 8, 9, 10, 11, 12, 13, 14, 15, 16, 17, 18, 19, 20, 21, 22, 23] rfl
  have hD := hD.sub (ws' := [(h0, .inr (2, [.ref (cu 1), .ref (cu 7), .ref (cu 10), .ref (cu 13), .int 0, .int (-1), .int (-1), .int 0, .int 0, .int 0, .int 0])), (cu 1, .inr (1, [.int (nI N), .ref (cu 2), .ref (cu 3), .ref (cu 4), .ref (cu 5), .ref (cu 6), .int 0])), (cu 2, .inl (cI, M, .inl (fun _ => 0))), (cu 3, .inl (cI, M, .inl (fun _ => 0))), (cu 4, .inl (cI, M, .inl (fun _ => 0))), (cu 5, .inl (cI, M, .inl (fun _ => 0))), (cu 6, .inl (cI, M, .inl (fun _ => 0))), (cu 7, .inr (0, [.ref (cu 8), .ref (cu 9), .ref (cu 1)])), (cu 8, .inl (cI, N, .inl (fun _ => 0))), (cu 9, .inl (cI, N, .inl (fun _ => 0))), (cu 10, .inr (0, [.ref (cu 11), .ref (cu 12), .ref (cu 1)])), (cu 11, .inl (cI, N, .inl (fun _ => 0))), (cu 12, .inl (cI, N, .inl (fun _ => 0))), (cu 13, .inl (cI, N, .inl (fun _ => 0))), (h1, .inr (3, [.int (nI N), .int (nI M), .int 0, .ref (mu 1), .ref (mu 2), .ref (mu 3), .ref (mu 4), .ref (mu 5), .long 0, .int 0, .int 0, .int 0, .int 0, .int 0, .int 0, .ref (mu 6), .ref (mu 7), .ref (mu 8), .ref (mu 9)])), (mu 1, .inl (cI, 40, .inl (fun _ => 0))), (mu 2, .inl (cI, 40, .inl (fun _ => 0))), (mu 3, .inl (cI, 40, .inl (fun _ => 0))), (mu 4, .inl (cI, 40, .inl (fun _ => 0))), (mu 5, .inl (cI, 40, .inl (fun _ => 0))), (mu 6, .inl (cJ, 12, .inr (.inl (fun _ => 0)))), (mu 7, .inl (cI, 12, .inl (fun _ => 0))), (mu 8, .inl (cZ, 12, .inl (fun _ => 0))), (mu 9, .inl (cI, 12, .inl (fun _ => 0)))]) [0, 1, 2, 3, 4, 5, 6, 7, 8, 9, 10, 11, 12, 13, 14, 15, 16, 17, 18, 19, 20, 21, 22, 23] (by decide) rfl
  refine lv_astore_n (lv' := [(2, .ref h1), (1, .ref h0), (0, .ref b)]) hx hb dL_law_35 rfl hl (by decide) rfl (fun ls hl => ?_)
  refine lv_iconst (v := 2) hx hb dL_law_36 (by decide) ?_
  refine tp_i (y := nI 2) rfl ?_
  refine lv_istore_n (lv' := [(3, .int (nI 2)), (2, .ref h1), (1, .ref h0), (0, .ref b)]) hx hb dL_law_37 rfl hl (by decide) rfl (fun ls hl => ?_)
  exact law_loop l hL C1 dC dI cI cJ cZ hK (fun k => if k = 0 then h0 else cu k) (fun k => if k = 0 then h1 else mu k) N M (L + 6) 2 0 (fun _ => 0) (fun _ => 0) (fun _ => 0) (fun _ => 0) (fun _ => 0) (fun _ => 0) (fun _ => 0) (fun _ => 0) (fun _ => 0) (fun _ => 0) 0 (-1) (-1) 0 0 0 0 (fun _ => 0) (fun _ => 0) (fun _ => 0) (fun _ => 0) 0 0 0 0 (by omega) (by omega) (LI_0 hN2 hN12 hM) _ _ hP hD hS _ (lv_sub hl [3, 2, 1, 0] rfl)
