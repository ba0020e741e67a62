set_option maxHeartbeats 8000000 in
set_option maxRecDepth 100000 in
/-- THE LAW'S LOOP -/
theorem law_loop {p : Program} {e : Env} {s : State} {m : MethodId} {below : List Frame} {meth : Method} {c : Code} (l : Launch) {b L : Nat} {xs : Nat → Int32} (hL : L ≤ 2562) (C0 : lw_At p s m meth c b L xs) (dC : Nat → ClassId) (dI : Nat → Nat → Nat) (cI cJ cZ : ClassId) (hK : va_K (dC, dI) vwCl [(cI, .int), (cJ, .long), (cZ, .boolean)] s) (q z : Nat → Nat) (N M : Nat) :
    ∀ (nf i : Nat) (E : Nat) (fr to cap uc fl le fe lt ft wy : Nat → Int32) (wl src snk cir sol rd fw : Int32) (ct : Nat → Int64) (ta hw wz : Nat → Int32) (ac : Int64) (he ms mk : Int32), i ≤ L + 5 → L + 5 < i + nf → LI N M E fr to cap uc fl le src snk cir sol ac he ms mk → ∀ (H : Heap) (locs : List Loc), va_P (dC, dI) vwCl (LWd cI cJ cZ q z N M E fr to cap uc fl le fe lt ft wy wl src snk cir sol rd fw ct ta hw wz ac he ms mk) H → va_D (fun a : Nat => s.heap.size ≤ a) (LWd cI cJ cZ q z N M E fr to cap uc fl le fe lt ft wy wl src snk cir sol rd fw ct ta hw wz ac he ms mk) → va_S (fun a : Nat => s.heap.size ≤ a) s.heap H locs → ∀ (ls : Array Slot), lv_has ls 4 [(0, .ref b), (1, .ref (q 0)), (2, .ref (z 0)), (3, .int (nI i))] → W p l e room_1 s m #[Value.ref b] below meth c H locs 24 551 (lw_Z below #[Value.ref b] s) (F0 m 38 ls []) := by
  have C1 := C0
  obtain ⟨hx, hb, hr, hml, hown, hts0, hX, hbl, hlocks, hgv⟩ := C0
  have hb : c.code = cL_law := hb
  have hbA : ¬ (fun a : Nat => s.heap.size ≤ a) b := Nat.not_le.mpr hbl
  intro nf
  induction nf with
  | zero =>
    intro i E fr to cap uc fl le fe lt ft wy wl src snk cir sol rd fw ct ta hw wz ac he ms mk hi1 hi2
    exact absurd hi2 (by omega)
  | succ nf ih =>
    intro i E fr to cap uc fl le fe lt ft wy wl src snk cir sol rd fw ct ta hw wz ac he ms mk hi1 hi2 hI H locs hP hD hS ls hl
    have hk : LK p l e s m below meth c b dC dI cI cJ cZ q z N M i ∨ L + 5 < i + 5 := by
      rcases Nat.lt_or_ge (L + 5) (i + 5) with h | h
      · exact Or.inr h
      · refine Or.inl ?_
        intro E fr to cap uc fl le fe lt ft wy wl src snk cir sol rd fw ct ta hw wz ac he ms mk hI H locs hP hD hS ls hl
        refine lv_iinc (v := nI (i + 5)) (lv' := [(3, .int (nI (i + 5))), (0, .ref b), (1, .ref (q 0)), (2, .ref (z 0))]) hx hb dL_law_366 hl (k := 3) rfl (nI_add i 5) (by decide) rfl (fun ls hl => ?_)
        refine lv_goto (tgt := 38) hx hb dL_law_369 (by decide) ?_
        exact ih (i + 5) E fr to cap uc fl le fe lt ft wy wl src snk cir sol rd fw ct ta hw wz ac he ms mk (by omega) (by omega) hI _ _ hP hD hS _ (lv_sub hl [1, 2, 3, 0] rfl)
    refine lv_iload_n hx hb dL_law_38 rfl (lv_at hl 3 rfl) ?_
    refine lv_aload_n hx hb dL_law_39 rfl (lv_at hl 0 rfl) ?_
    refine va_slen hx hb hX hbl hbA hS dL_law_40 ?_
    refine lv_iconst (v := 5) hx hb dL_law_41 (by decide) ?_
    refine lv_isub hx hb dL_law_42 ?_
    refine lv_icmp_gt (tgt := 372) hx hb dL_law_43 (by decide) (fun c_43 => ?_) (fun c_43 => ?_)
    · refine lv_iconst (v := 1) hx hb dL_law_372 (by decide) ?_
      refine va_forget (fun q hq => hS.2.2 q hq) ?_
      refine W.widen (k := 600000) (n := 7302250) (by omega) (by omega) ?_
      exact lw_ret hx hb hr hlocks dL_law_373
    · have hi := ix_law (by omega) hL c_43
      have hk : LK p l e s m below meth c b dC dI cI cJ cZ q z N M i := by
        rcases hk with h | h
        · exact h
        · omega
      refine lv_aload_n hx hb dL_law_46 rfl (lv_at hl 0 rfl) ?_
      refine lv_iload_n hx hb dL_law_47 rfl (lv_at hl 3 rfl) ?_
      refine va_sld hx hb hX hbl hbA hS (vp_in_nI (n := i) (by omega) (by omega)) dL_law_48 ?_
      refine lv_bipush (v := 15) hx hb dL_law_49 (by decide) ?_
      refine lv_iand hx hb dL_law_51 ?_
      obtain ⟨j, hj, ej⟩ := pk_andE (xs (nI i).toNatClampNeg) (m := 15) 4 (by decide)
      refine tp_i (y := nI j) ej ?_
      obtain ⟨hnet, hEM, hM40, hz, hac, hends, hcir, hgood, hcs, hs01, hle⟩ := id hI
      by_cases j0 : j = 0
      · subst j0
        refine lv_tableIn (off := 60) (tgt := 112) hx hb dL_law_52 (by decide) (by decide) rfl (by decide) ?_
        by_cases hg : fq_eg N M E cap (xs (i + 1)) (xs (i + 2)) (xs (i + 3)) (xs (i + 4))
        · exact lc_edge_ok l C1 dC dI cI cJ cZ hK q z N M i hL hi E fr to cap uc fl le fe lt ft wy wl src snk cir sol rd fw ct ta hw wz ac he ms mk hI hg hk H locs hP hD hS ls hl
        · exact lc_edge_bad l C1 dC dI cI cJ cZ hK q z N M i hL hi E fr to cap uc fl le fe lt ft wy wl src snk cir sol rd fw ct ta hw wz ac he ms mk hI hg hk H locs hP hD hS ls hl
      by_cases j1 : j = 1
      · subst j1
        refine lv_tableIn (off := 113) (tgt := 165) hx hb dL_law_52 (by decide) (by decide) rfl (by decide) ?_
        by_cases hg : fq_nf N (xs (i + 1)) (xs (i + 2))
        · exact lc_ends_ok l C1 dC dI cI cJ cZ hK q z N M i hL hi E fr to cap uc fl le fe lt ft wy wl src snk cir sol rd fw ct ta hw wz ac he ms mk hI hg hk H locs hP hD hS ls hl
        · exact lc_ends_bad l C1 dC dI cI cJ cZ hK q z N M i hL hi E fr to cap uc fl le fe lt ft wy wl src snk cir sol rd fw ct ta hw wz ac he ms mk hI hg hk H locs hP hD hS ls hl
      by_cases j2 : j = 2
      · subst j2
        refine lv_tableIn (off := 146) (tgt := 198) hx hb dL_law_52 (by decide) (by decide) rfl (by decide) ?_
        by_cases hy : ((xs (i + 1)) < 0 ∨ 10000 < (xs (i + 1))) ∨ he = 0 ∨ ¬ sol = 0
        · exact lc_run_early l C1 dC dI cI cJ cZ hK q z N M i hL hi E fr to cap uc fl le fe lt ft wy wl src snk cir sol rd fw ct ta hw wz ac he ms mk hI hy hk H locs hP hD hS ls hl
        · obtain ⟨R, hR, hx1⟩ := x_ok (fun h => hy (Or.inl h))
          have hs0 : sol = 0 := Decidable.byContradiction (fun h => hy (Or.inr (Or.inr h)))
          subst hs0
          rcases hends with ⟨e1, e2, e3⟩ | ⟨rfl, rfl, rfl, hnf⟩
          · exact absurd (Or.inr (Or.inl e1)) hy
          · by_cases hc : cir = 0
            · subst hc
              exact lc_run_go l C1 dC dI cI cJ cZ hK q z N M i hL hi E fr to cap uc fl le fe lt ft wy wl src snk rd fw ct ta hw wz ac R hI hR hx1 hk H locs hP hD hS ls hl
            · exact lc_run_circ l C1 dC dI cI cJ cZ hK q z N M i hL hi E fr to cap uc fl le fe lt ft wy wl src snk cir rd fw ct ta hw wz ac R hI hR hx1 hc hk H locs hP hD hS ls hl
      by_cases j3 : j = 3
      · subst j3
        refine lv_tableIn (off := 169) (tgt := 221) hx hb dL_law_52 (by decide) (by decide) rfl (by decide) ?_
        exact lc_value l C1 dC dI cI cJ cZ hK q z N M i hL hi E fr to cap uc fl le fe lt ft wy wl src snk cir sol rd fw ct ta hw wz ac he ms mk hI hk H locs hP hD hS ls hl
      by_cases j4 : j = 4
      · subst j4
        refine lv_tableIn (off := 182) (tgt := 234) hx hb dL_law_52 (by decide) (by decide) rfl (by decide) ?_
        exact lc_cost l C1 dC dI cI cJ cZ hK q z N M i hL hi E fr to cap uc fl le fe lt ft wy wl src snk cir sol rd fw ct ta hw wz ac he ms mk hI hk H locs hP hD hS ls hl
      by_cases j5 : j = 5
      · subst j5
        refine lv_tableIn (off := 196) (tgt := 248) hx hb dL_law_52 (by decide) (by decide) rfl (by decide) ?_
        exact lc_flow l C1 dC dI cI cJ cZ hK q z N M i hL hi E fr to cap uc fl le fe lt ft wy wl src snk cir sol rd fw ct ta hw wz ac he ms mk hI hk H locs hP hD hS ls hl
      by_cases j6 : j = 6
      · subst j6
        refine lv_tableIn (off := 219) (tgt := 271) hx hb dL_law_52 (by decide) (by decide) rfl (by decide) ?_
        by_cases hy : sol = 0 ∨ ¬ vp_in (xs (i + 1)) N
        · exact lc_pot_early l C1 dC dI cI cJ cZ hK q z N M i hL hi E fr to cap uc fl le fe lt ft wy wl src snk cir sol rd fw ct ta hw wz ac he ms mk hI hy hk H locs hP hD hS ls hl
        · have hso : ¬ sol = 0 := fun h => hy (Or.inl h)
          have hx0 : vp_in (xs (i + 1)) N := Classical.byContradiction (fun h => hy (Or.inr h))
          rcases hends with ⟨e1, e2, e3⟩ | ⟨rfl, rfl, rfl, hnf⟩
          · exact absurd e3 hso
          · exact lc_pot_go l C1 dC dI cI cJ cZ hK q z N M i hL hi E fr to cap uc fl le fe lt ft wy wl src snk cir sol rd fw ct ta hw wz ac hI hso hx0 hk H locs hP hD hS ls hl
      by_cases j7 : j = 7
      · subst j7
        refine lv_tableIn (off := 242) (tgt := 294) hx hb dL_law_52 (by decide) (by decide) rfl (by decide) ?_
        by_cases hy : sol = 0 ∨ ¬ vp_in (xs (i + 1)) N
        · exact lc_cut_early l C1 dC dI cI cJ cZ hK q z N M i hL hi E fr to cap uc fl le fe lt ft wy wl src snk cir sol rd fw ct ta hw wz ac he ms mk hI hy hk H locs hP hD hS ls hl
        · have hso : ¬ sol = 0 := fun h => hy (Or.inl h)
          have hx0 : vp_in (xs (i + 1)) N := Classical.byContradiction (fun h => hy (Or.inr h))
          rcases hends with ⟨e1, e2, e3⟩ | ⟨rfl, rfl, rfl, hnf⟩
          · exact absurd e3 hso
          · exact lc_cut_go l C1 dC dI cI cJ cZ hK q z N M i hL hi E fr to cap uc fl le fe lt ft wy wl src snk cir sol rd fw ct ta hw wz ac hI hso hx0 hk H locs hP hD hS ls hl
      by_cases j8 : j = 8
      · subst j8
        refine lv_tableIn (off := 265) (tgt := 317) hx hb dL_law_52 (by decide) (by decide) rfl (by decide) ?_
        by_cases hs0 : sol = 0
        · exact lc_check_early l C1 dC dI cI cJ cZ hK q z N M i hL hi E fr to cap uc fl le fe lt ft wy wl src snk cir sol rd fw ct ta hw wz ac he ms mk hI hs0 hk H locs hP hD hS ls hl
        · rcases hends with ⟨e1, e2, e3⟩ | ⟨rfl, rfl, rfl, hnf⟩
          · exact absurd e3 hs0
          · exact lc_check_go l C1 dC dI cI cJ cZ hK q z N M i hL hi E fr to cap uc fl le fe lt ft wy wl src snk cir sol rd fw ct ta hw wz ac hI hs0 hk H locs hP hD hS ls hl
      by_cases j9 : j = 9
      · subst j9
        refine lv_tableIn (off := 278) (tgt := 330) hx hb dL_law_52 (by decide) (by decide) rfl (by decide) ?_
        by_cases hy : he = 0 ∨ ¬ sol = 0
        · exact lc_next_early l C1 dC dI cI cJ cZ hK q z N M i hL hi E fr to cap uc fl le fe lt ft wy wl src snk cir sol rd fw ct ta hw wz ac he ms mk hI hy hk H locs hP hD hS ls hl
        · have hs0 : sol = 0 := Decidable.byContradiction (fun h => hy (Or.inr h))
          subst hs0
          rcases hends with ⟨e1, e2, e3⟩ | ⟨rfl, rfl, rfl, hnf⟩
          · exact absurd (Or.inl e1) hy
          · by_cases hc : cir = 0
            · subst hc
              exact lc_next_go l C1 dC dI cI cJ cZ hK q z N M i hL hi E fr to cap uc fl le fe lt ft wy wl src snk rd fw ct ta hw wz ac hI hk H locs hP hD hS ls hl
            · exact lc_next_circ l C1 dC dI cI cJ cZ hK q z N M i hL hi E fr to cap uc fl le fe lt ft wy wl src snk cir rd fw ct ta hw wz ac hI hc hk H locs hP hD hS ls hl
      by_cases j10 : j = 10
      · subst j10
        refine lv_tableIn (off := 291) (tgt := 343) hx hb dL_law_52 (by decide) (by decide) rfl (by decide) ?_
        exact lc_count l C1 dC dI cI cJ cZ hK q z N M i hL hi E fr to cap uc fl le fe lt ft wy wl src snk cir sol rd fw ct ta hw wz ac he ms mk hI hk H locs hP hD hS ls hl
      refine lv_tableOut (tgt := 366) hx hb dL_law_52 (sw16 hj rfl (by omega)) (by decide) ?_
      exact hk E fr to cap uc fl le fe lt ft wy wl src snk cir sol rd fw ct ta hw wz ac he ms mk hI _ _ hP hD hS _ hl
