/-! JMP, JSR, RTS -/
theorem w_37 {n : Nat} (hn : n < 65536) : (nI n >>> ((3 : Int32) &&& 31)) &&& (7 : Int32) = nI (n / 8 % 8) := by rw [w_3 hn, d_r]
theorem st_2 : okst 2 := Or.inr (Or.inr (Or.inl rfl))
theorem sim_jmp (wd rg : Nat → Int32) (hw : ∀ j, rng (wd j)) (hg : ∀ j, rng (rg j)) (al : Int64) (sp pl pd : Int32) (wk : sW) (hk : okW wk) {n : Nat} (hn : n < 65536) (h1 : n / 64 = 1) :
    ∃ rA rD, fnA_doJump (wd, rg, 0, al, sp, pl, wk) (nI n) = some ((), rA) ∧ fnD_jump (wd, rg, pk wk, 0, al, sp, pd) (nI n) = some ((), rD) ∧ RI al sp rA rD := by
  dsimp only [fnA_doJump, fnD_jump]
  rw [a_63 hn, w_37 hn]
  by_cases h8 : n % 64 < 8
  · rw [A_ft0 wd rg _ h8, if_pos (show nI (n / 8 % 8) = 0 by rw [show n / 8 % 8 = 0 by omega]; rfl), Option.bind_some]
    dsimp only
    rw [if_pos rfl]
    exact ⟨_, _, rfl, rfl, RI_st hw hg hk st_2 (by decide)⟩
  · rw [if_neg (show ¬ nI (n / 8 % 8) = 0 from n_ne (b := 0) (by omega) (by omega) (by omega))]
    obtain ⟨g, er, a, sp', tk', pd', f1, f2, hg1, he, ha, hi⟩ := sim_tgt wd rg hw hg al sp pl pd wk (pk wk) (dd := n % 64) (by omega) (by omega)
    rw [f1, f2, Option.bind_some, Option.bind_some]
    dsimp only
    by_cases e0 : er = 0
    · subst e0
      obtain ⟨rfl, rfl, j1⟩ := hi rfl
      rw [if_pos rfl, if_neg (rng_ne ha), if_pos (show (0 : Int32) ≤ 0 by decide), w_6 hn, if_pos (show nI (n / 64) = (1 : Int32) by rw [h1]; rfl), if_pos (by decide)]
      exact ⟨_, _, rfl, rfl, RI_ok hw (rng_upd hg1 ha 7) hk (J_le (J_add j1 1) (by decide))⟩
    · rw [if_neg e0, if_pos rfl, if_neg (fun q => e0 ((e_le he).mp q))]
      exact ⟨_, _, rfl, rfl, RI_st hw hg1 hk (e_st he) e0⟩
theorem sim_jsr (wd rg : Nat → Int32) (hw : ∀ j, rng (wd j)) (hg : ∀ j, rng (rg j)) (al : Int64) (sp pl pd : Int32) (wk : sW) (hk : okW wk) {n : Nat} (hn : n < 65536) (h1 : ¬ n / 64 = 1) :
    ∃ rA rD, fnA_doJumpToSubroutine (wd, rg, 0, al, sp, pl, wk) (nI n) = some ((), rA) ∧ fnD_jump (wd, rg, pk wk, 0, al, sp, pd) (nI n) = some ((), rD) ∧ RI al sp rA rD := by
  have hr : n / 64 % 8 < 8 := Nat.mod_lt _ (by decide)
  dsimp only [fnA_doJumpToSubroutine, fnD_jump]
  rw [a_63 hn, w_37 hn, w_67 hn]
  by_cases h8 : n % 64 < 8
  · rw [A_ft0 wd rg _ h8, if_pos (show nI (n / 8 % 8) = 0 by rw [show n / 8 % 8 = 0 by omega]; rfl), Option.bind_some]
    dsimp only
    rw [if_pos rfl]
    exact ⟨_, _, rfl, rfl, RI_st hw hg hk st_2 (by decide)⟩
  · rw [if_neg (show ¬ nI (n / 8 % 8) = 0 from n_ne (b := 0) (by omega) (by omega) (by omega))]
    obtain ⟨g, er, a, sp', tk', pd', f1, f2, hg1, he, ha, hi⟩ := sim_tgt wd rg hw hg al sp pl pd wk (pk wk) (dd := n % 64) (by omega) (by omega)
    rw [f1, f2, Option.bind_some, Option.bind_some]
    dsimp only
    by_cases e0 : er = 0
    · subst e0
      obtain ⟨rfl, rfl, j1⟩ := hi rfl
      rw [if_pos rfl, if_neg (rng_ne ha), if_pos (show (0 : Int32) ≤ 0 by decide), w_6 hn, if_neg (show ¬ nI (n / 64) = (1 : Int32) from n_ne (b := 1) h1 (by omega) (by omega)), show (6 : Int32) = nI 6 from rfl, A_dn _ (by decide), D_add _ (by decide), Option.bind_some, Option.bind_some]
      dsimp only
      have hg2 := ru_rng hg1 6 (-2 : Int32)
      generalize ru g 6 (-2 : Int32) = g2 at hg2 ⊢
      have h6 := hg2 6
      rw [if_pos (show ixk (nI 6) 8 = true from ix8 (by decide)), cl8 (show 6 < 8 by decide), A_rw _ h6 rfl, D_wd _ h6 rfl, Option.bind_some, Option.bind_some]
      dsimp only
      by_cases e1 : ecx (g2 6) = 0
      · have hlt := (ecx_0 e1).1
        rw [if_pos e1, if_neg (rng_ne (gw_rng hw _)), e1, if_pos (show (0 : Int32) ≤ 0 by decide), if_pos (ix8 hr), if_pos (q_ix h6 hlt), if_pos (by decide), if_pos (ix8 hr), if_pos (by decide), if_pos (show ixk (nI 6) 8 = true from ix8 (by decide)), if_pos (ix8 hr), q_half h6, if_pos (q_ix h6 hlt), if_pos (by decide), if_pos (ix8 hr), if_pos (by decide), cl8 hr]
        exact ⟨_, _, rfl, rfl, RI_ok (rng_upd hw (hg2 _) _) (rng_upd (rng_upd hg2 (hg2 _) _) ha _) hk (J_le (J_add j1 6) (by decide))⟩
      · rw [if_neg e1, if_pos rfl, if_neg (fun q => e1 ((e_le (ecx_or _)).mp q))]
        exact ⟨_, _, rfl, rfl, RI_st hw hg2 hk (e_st (ecx_or _)) e1⟩
    · rw [if_neg e0, if_pos rfl, if_neg (fun q => e0 ((e_le he).mp q))]
      exact ⟨_, _, rfl, rfl, RI_st hw hg1 hk (e_st he) e0⟩
theorem sim_rts (wd rg : Nat → Int32) (hw : ∀ j, rng (wd j)) (hg : ∀ j, rng (rg j)) (al : Int64) (sp pl pd : Int32) (wk : sW) (hk : okW wk) {n : Nat} (hn : n < 65536) :
    ∃ rA rD, fnA_doReturn (wd, rg, 0, al, sp, pl, wk) (nI n &&& (7 : Int32)) = some ((), rA) ∧ fnD_back (wd, rg, pk wk, 0, al, sp, pd) (nI n) = some ((), rD) ∧ RI al sp rA rD := by
  have hr : n % 8 < 8 := Nat.mod_lt _ (by decide)
  dsimp only [fnA_doReturn, fnD_back]
  rw [a_7, cl8 hr]
  have hg2 : ∀ j, rng (upd rg (7 : Int32).toNatClampNeg (rg (n % 8)) j) := rng_upd hg (hg _) _
  generalize upd rg (7 : Int32).toNatClampNeg (rg (n % 8)) = g at hg2 ⊢
  rw [if_pos (ix8 hr), if_pos (by decide), if_pos (ix8 hr), if_pos (by decide), if_pos (by decide), show (6 : Int32) = nI 6 from rfl, A_up _ (by decide), D_add _ (by decide), Option.bind_some, Option.bind_some]
  dsimp only
  have hg3 := ru_rng hg2 6 (2 : Int32)
  rw [cl8 (show 6 < 8 by decide), A_rw _ (hg2 6) rfl, D_wd _ (hg2 6) rfl, Option.bind_some, Option.bind_some]
  dsimp only
  by_cases e1 : ecx (g 6) = 0
  · rw [if_pos e1, if_neg (rng_ne (gw_rng hw _)), e1, if_pos (show (0 : Int32) ≤ 0 by decide), if_pos (ix8 hr), if_pos (ix8 hr)]
    exact ⟨_, _, rfl, rfl, RI_ok hw (rng_upd hg3 (gw_rng hw _) _) hk (J_le (J_add (J_0 sp) 3) (by decide))⟩
  · rw [if_neg e1, if_pos rfl, if_neg (fun q => e1 ((e_le (ecx_or _)).mp q))]
    exact ⟨_, _, rfl, rfl, RI_st hw hg3 hk (e_st (ecx_or _)) e1⟩
