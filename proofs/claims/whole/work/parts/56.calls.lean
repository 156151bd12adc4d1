/-! what holds between calls, and every call alike -/
def Rl (u : sA) (v : sD) : Prop := ∃ (wd rg : Nat → Int32) (st : Int32) (al : Int64) (sp pl tk pd : Int32) (wk : sW), u = (wd, rg, st, al, sp, pl, wk) ∧ v = (wd, rg, pk wk, st, al, tk, pd) ∧ (∀ j, rng (wd j)) ∧ (∀ j, rng (rg j)) ∧ okW wk ∧ okst st
theorem Rl_in : Rl inA inD := ⟨_, _, _, _, _, _, _, _, (0, 0, 0, 0, 65535, 32768), rfl, rfl, fun _ => rng_0, fun _ => rng_0, ⟨Or.inl rfl, Or.inl rfl, Or.inl rfl, Or.inl rfl⟩, Or.inl rfl⟩
theorem st_le {x : Int32} (h : okst x) : (x ≤ 0 ↔ x = 0) := by rcases h with rfl | rfl | rfl | rfl | rfl <;> decide
theorem sim_step0 (wd rg : Nat → Int32) (hw : ∀ j, rng (wd j)) (hg : ∀ j, rng (rg j)) (al : Int64) (sp pl tk pd : Int32) (wk : sW) (hk : okW wk) :
    ∃ x u' v', fnA_doInstruction (wd, rg, 0, al, sp, pl, wk) = some (x, u') ∧ fnD_step (wd, rg, pk wk, 0, al, tk, pd) = some (x, v') ∧ Rl u' v' ∧ (x = -1 ∨ (0 < x ∧ ¬ x = (-1 : Int32))) := by
  have hg2 := ru_rng hg 7 (2 : Int32)
  dsimp only [fnA_doInstruction, fnD_step]
  rw [if_pos (show (0 : Int32) ≤ 0 by decide), show (7 : Int32) = nI 7 from rfl, A_up _ (by decide), Option.bind_some, D_fo _ (hg 7) rfl, Option.bind_some]
  dsimp only
  rw [A_rw _ (hg 7) rfl, Option.bind_some]
  dsimp only
  by_cases e : ecx (rg 7) = 0
  · rw [e, if_pos rfl, if_neg (rng_ne (gw_rng hw _)), if_pos (show (0 : Int32) ≤ 0 by decide), if_pos rfl]
    obtain ⟨n, hn, en⟩ := gw_rng hw (rg 7)
    rw [en]
    obtain ⟨rA, rD, p1, p2, p3⟩ := sim_dsp wd (ru rg 7 2) hw hg2 al 2 pl pd wk hk hn
    show ∃ x u' v', (fnA_perform (wd, ru rg 7 2, 0, al, 2, pl, wk) (nI n)).bind (fun r6 => fnA_doInstruction_27 r6.2) = some (x, u') ∧ dsp (wd, ru rg 7 2, pk wk, 0, al, 2, pd) (nI n) = some (x, v') ∧ Rl u' v' ∧ (x = -1 ∨ (0 < x ∧ ¬ x = (-1 : Int32)))
    rw [p1, p2, Option.bind_some]
    obtain ⟨wa, ga, sa, ala, spa, pla, wka⟩ := rA
    obtain ⟨wb, gb, flb, sb, alb, tkb, pdb⟩ := rD
    obtain ⟨q1, q2, q3, q4, q5, q6, q7, q8, q9, q10, q11⟩ := p3
    dsimp only at q1 q2 q3 q4 q5 q6 q7 q8 q9 q10 q11
    subst q1 q2 q3 q6 q4 q5
    dsimp only [fnA_doInstruction_27, fnD_step_93]
    by_cases e2 : sa = 0
    · obtain ⟨s1, j, hj, s2⟩ := q11 e2
      subst s1
      rw [if_pos e2, if_pos ((st_le q10).mpr e2)]
      refine ⟨_, _, _, rfl, rfl, ⟨_, _, _, _, _, _, _, _, _, rfl, rfl, q8, q9, q7, q10⟩, Or.inr ?_⟩
      rw [s2, show (2 : Int32) + nI j = nI (2 + j) from nI_add 2 j]
      exact ⟨n_lt (a := 0) (by omega) (by omega), rng_ne (rng_nI (by omega))⟩
    · rw [if_neg e2, if_neg (fun q => e2 ((st_le q10).mp q))]
      exact ⟨_, _, _, rfl, rfl, ⟨_, _, _, _, _, _, _, _, _, rfl, rfl, q8, q9, q7, q10⟩, Or.inl rfl⟩
  · rw [if_neg e, if_pos rfl, if_neg (fun q => e ((e_le (ecx_or _)).mp q))]
    dsimp only [fnA_doInstruction_27]
    rw [if_neg e]
    exact ⟨_, _, _, rfl, rfl, ⟨_, _, _, _, _, _, _, _, _, rfl, rfl, hw, hg2, hk, e_st (ecx_or _)⟩, Or.inl rfl⟩
theorem D_st {v : sD} (h : okst v.2.2.2.1) (h0 : ¬ v.2.2.2.1 = 0) : fnD_step v = some (-1, v) := by
  dsimp only [fnD_step]
  rw [if_neg (fun q => h0 ((st_le h).mp q))]
theorem sim_step {u : sA} {v : sD} (h : Rl u v) : ∃ x u' v', fnA_step u = some (x, u') ∧ fnD_step v = some (x, v') ∧ Rl u' v' := by
  obtain ⟨wd, rg, st, al, sp, pl, tk, pd, wk, rfl, rfl, hw, hg, hk, hs⟩ := h
  dsimp only [fnA_step]
  by_cases e : st = 0
  · subst e
    obtain ⟨x, u', v', p1, p2, p3, -⟩ := sim_step0 wd rg hw hg al sp pl tk pd wk hk
    rw [if_pos rfl, p1, p2]
    exact ⟨_, _, _, rfl, rfl, p3⟩
  · rw [if_neg e, D_st hs e]
    exact ⟨_, _, _, rfl, rfl, ⟨_, _, _, _, _, _, _, _, _, rfl, rfl, hw, hg, hk, hs⟩⟩
theorem sim_loop (n mo : Int32) (hmo : ∀ k, k ≤ 10000 → (mo ≤ nI k ↔ (n ≤ nI k ∨ 10000 ≤ k))) : ∀ (f k : Nat) (u : sA) (v : sD), k ≤ 10000 → 10000 - k < f → Rl u v → ∃ x u' v', fnA_run_10 f u mo (nI k) = some (x, u') ∧ fnD_run_2 f v n (nI k) = some (x, v') ∧ Rl u' v' := by
  intro f
  induction f with
  | zero => intro k u v _ h; omega
  | succ f ih =>
    intro k u v hk hf hR
    obtain ⟨wd, rg, st, al, sp, pl, tk, pd, wk, rfl, rfl, hw, hg, hkk, hs⟩ := hR
    have hR : Rl (wd, rg, st, al, sp, pl, wk) (wd, rg, pk wk, st, al, tk, pd) := ⟨_, _, _, _, _, _, _, _, _, rfl, rfl, hw, hg, hkk, hs⟩
    unfold fnA_run_10 fnD_run_2
    by_cases e : mo ≤ nI k
    · rw [if_pos e]
      by_cases e1 : n ≤ nI k
      · rw [if_pos e1]
        exact ⟨_, _, _, rfl, rfl, hR⟩
      · have e2 : 10000 ≤ k := ((hmo k hk).mp e).resolve_left e1
        rw [if_neg e1, if_pos (show (10000 : Int32) ≤ nI k from n_le (a := 10000) e2 (by omega))]
        exact ⟨_, _, _, rfl, rfl, hR⟩
    · have e1 : ¬ n ≤ nI k := fun q => e ((hmo k hk).mpr (Or.inl q))
      have e2 : ¬ 10000 ≤ k := fun q => e ((hmo k hk).mpr (Or.inr q))
      rw [if_neg e, if_neg e1, if_neg (show ¬ (10000 : Int32) ≤ nI k from n_nle (b := 10000) (by omega) (by omega))]
      dsimp only
      by_cases e3 : st = 0
      · subst e3
        obtain ⟨x, u', v', p1, p2, p3, p4⟩ := sim_step0 wd rg hw hg al sp pl tk pd wk hkk
        rw [if_pos rfl, p1, p2, Option.bind_some, Option.bind_some]
        dsimp only
        rcases p4 with rfl | ⟨p4, p5⟩
        · rw [if_pos rfl, if_pos (by decide)]
          exact ⟨_, _, _, rfl, rfl, p3⟩
        · rw [if_neg p5, if_neg (Int32.not_le.mpr p4), nI_1]
          exact ih (k + 1) u' v' (by omega) (by omega) p3
      · rw [if_neg e3, D_st hs e3, Option.bind_some]
        dsimp only
        rw [if_pos (by decide)]
        exact ⟨_, _, _, rfl, rfl, hR⟩
theorem sim_run {u : sA} {v : sD} (h : Rl u v) (n : Int32) : ∃ x u' v', fnA_run 10001 u n = some (x, u') ∧ fnD_run 10001 v n = some (x, v') ∧ Rl u' v' := by
  refine sim_loop n _ ?_ 10001 0 u v (by omega) (by omega) h
  intro k hk
  by_cases e : (10000 : Int32) < n
  · rw [if_pos e]
    have e1 : (10000 : Int32) ≤ nI k ↔ 10000 ≤ k := nI_leI (a := 10000) (by omega) (by omega)
    rw [e1]
    refine ⟨Or.inr, fun q => q.elim (fun q => e1.mp (Int32.le_trans (Int32.le_of_lt e) q)) id⟩
  · rw [if_neg e]
    refine ⟨Or.inl, fun q => q.elim id (fun q => Int32.le_trans (Int32.not_lt.mp e) ?_)⟩
    exact n_le (a := 10000) q (by omega)
theorem rng_4096 {a : Int32} (h0 : ¬ a < 0) (h1 : ¬ (4096 : Int32) ≤ a) : rng a ∧ a < (4096 : Int32) := by
  obtain ⟨j, hj, rfl⟩ := nI_of h0
  have h2 : j < 4096 := Nat.lt_of_not_le (fun q => h1 (nI_le (a := 4096) q (by omega)))
  exact ⟨rng_nI (by omega), n_lt (b := 4096) h2 (by omega)⟩
theorem sim_poke {u : sA} {v : sD} (h : Rl u v) (a y : Int32) : ∃ x u' v', fnA_poke u a y = some (x, u') ∧ fnD_poke v a y = some (x, v') ∧ Rl u' v' := by
  obtain ⟨wd, rg, st, al, sp, pl, tk, pd, wk, rfl, rfl, hw, hg, hk, hs⟩ := h
  dsimp only [fnA_poke, fnD_poke, fnA_isWordAddress]
  by_cases h0 : a < 0
  · rw [if_pos h0, if_pos h0]
    exact ⟨_, _, _, rfl, rfl, ⟨_, _, _, _, _, _, _, _, _, rfl, rfl, hw, hg, hk, hs⟩⟩
  · rw [if_neg h0, if_neg h0]
    by_cases h1 : (4096 : Int32) ≤ a
    · rw [if_pos h1, if_pos h1]
      exact ⟨_, _, _, rfl, rfl, ⟨_, _, _, _, _, _, _, _, _, rfl, rfl, hw, hg, hk, hs⟩⟩
    · obtain ⟨hr, hl⟩ := rng_4096 h0 h1
      rw [if_neg h1, if_neg h1, q_odd hr, q_half hr]
      by_cases h2 : a &&& (1 : Int32) = 0
      · rw [if_pos h2, if_pos h2]
        rw [show fnA_isWordAddress_22 (1 : Int32) = some (1, ()) from rfl, Option.bind_some]
        dsimp only
        rw [if_neg z1, if_pos (q_ix hr hl), if_pos (q_ix hr hl)]
        exact ⟨_, _, _, rfl, rfl, ⟨_, _, _, _, _, _, _, _, _, rfl, rfl, rng_upd hw (rng_mask y) _, hg, hk, hs⟩⟩
      · rw [if_neg h2, if_neg h2]
        exact ⟨_, _, _, rfl, rfl, ⟨_, _, _, _, _, _, _, _, _, rfl, rfl, hw, hg, hk, hs⟩⟩
theorem sim_peek {u : sA} {v : sD} (h : Rl u v) (a : Int32) : ∃ x u' v', fnA_peek u a = some (x, u') ∧ fnD_peek v a = some (x, v') ∧ Rl u' v' := by
  obtain ⟨wd, rg, st, al, sp, pl, tk, pd, wk, rfl, rfl, hw, hg, hk, hs⟩ := h
  have hR : Rl (wd, rg, st, al, sp, pl, wk) (wd, rg, pk wk, st, al, tk, pd) := ⟨_, _, _, _, _, _, _, _, _, rfl, rfl, hw, hg, hk, hs⟩
  dsimp only [fnA_peek, fnD_peek, fnA_isWordAddress]
  by_cases h0 : a < 0
  · rw [if_pos h0, if_pos h0]
    exact ⟨_, _, _, rfl, rfl, hR⟩
  · rw [if_neg h0, if_neg h0]
    by_cases h1 : (4096 : Int32) ≤ a
    · rw [if_pos h1, if_pos h1]
      exact ⟨_, _, _, rfl, rfl, hR⟩
    · obtain ⟨hr, hl⟩ := rng_4096 h0 h1
      rw [if_neg h1, if_neg h1, q_odd hr, q_half hr]
      by_cases h2 : a &&& (1 : Int32) = 0
      · rw [if_pos h2, if_pos h2]
        rw [show fnA_isWordAddress_22 (1 : Int32) = some (1, ()) from rfl, Option.bind_some]
        dsimp only
        rw [if_neg z1, if_pos (q_ix hr hl), if_pos (q_ix hr hl)]
        exact ⟨_, _, _, rfl, rfl, hR⟩
      · rw [if_neg h2, if_neg h2]
        exact ⟨_, _, _, rfl, rfl, hR⟩
theorem sim_set {u : sA} {v : sD} (h : Rl u v) (a y : Int32) : ∃ x u' v', fnA_set u a y = some (x, u') ∧ fnD_set v a y = some (x, v') ∧ Rl u' v' := by
  obtain ⟨wd, rg, st, al, sp, pl, tk, pd, wk, rfl, rfl, hw, hg, hk, hs⟩ := h
  have hR : Rl (wd, rg, st, al, sp, pl, wk) (wd, rg, pk wk, st, al, tk, pd) := ⟨_, _, _, _, _, _, _, _, _, rfl, rfl, hw, hg, hk, hs⟩
  dsimp only [fnA_set, fnD_set, fnA_isRegister]
  by_cases h0 : a < 0
  · rw [if_pos h0, if_pos h0]
    exact ⟨_, _, _, rfl, rfl, hR⟩
  · rw [if_neg h0, if_neg h0]
    obtain ⟨j, hj, rfl⟩ := nI_of h0
    by_cases h1 : 8 ≤ j
    · rw [if_pos (show (8 : Int32) ≤ nI j from nI_le (a := 8) h1 hj), if_neg (show ¬ nI j ≤ (7 : Int32) from nI_ge (a := 7) (by omega) hj)]
      exact ⟨_, _, _, rfl, rfl, hR⟩
    · rw [if_neg (show ¬ (8 : Int32) ≤ nI j from nI_ge (b := 8) (by omega) (by omega)), if_pos (show nI j ≤ (7 : Int32) from nI_le (b := 7) (by omega) (by omega))]
      rw [show fnA_isRegister_15 (1 : Int32) = some (1, ()) from rfl, Option.bind_some]
      dsimp only
      rw [if_neg z1, if_pos (ix8 (by omega)), if_pos (ix8 (by omega))]
      exact ⟨_, _, _, rfl, rfl, ⟨_, _, _, _, _, _, _, _, _, rfl, rfl, hw, rng_upd hg (rng_mask y) _, hk, hs⟩⟩
theorem sim_register {u : sA} {v : sD} (h : Rl u v) (a : Int32) : ∃ x u' v', fnA_register u a = some (x, u') ∧ fnD_register v a = some (x, v') ∧ Rl u' v' := by
  obtain ⟨wd, rg, st, al, sp, pl, tk, pd, wk, rfl, rfl, hw, hg, hk, hs⟩ := h
  have hR : Rl (wd, rg, st, al, sp, pl, wk) (wd, rg, pk wk, st, al, tk, pd) := ⟨_, _, _, _, _, _, _, _, _, rfl, rfl, hw, hg, hk, hs⟩
  dsimp only [fnA_register, fnD_register, fnA_isRegister]
  by_cases h0 : a < 0
  · rw [if_pos h0, if_pos h0]
    exact ⟨_, _, _, rfl, rfl, hR⟩
  · rw [if_neg h0, if_neg h0]
    obtain ⟨j, hj, rfl⟩ := nI_of h0
    by_cases h1 : 8 ≤ j
    · rw [if_pos (show (8 : Int32) ≤ nI j from nI_le (a := 8) h1 hj), if_neg (show ¬ nI j ≤ (7 : Int32) from nI_ge (a := 7) (by omega) hj)]
      exact ⟨_, _, _, rfl, rfl, hR⟩
    · rw [if_neg (show ¬ (8 : Int32) ≤ nI j from nI_ge (b := 8) (by omega) (by omega)), if_pos (show nI j ≤ (7 : Int32) from nI_le (b := 7) (by omega) (by omega))]
      rw [show fnA_isRegister_15 (1 : Int32) = some (1, ()) from rfl, Option.bind_some]
      dsimp only
      rw [if_neg z1, if_pos (ix8 (by omega)), if_pos (ix8 (by omega))]
      exact ⟨_, _, _, rfl, rfl, hR⟩
theorem sim_flagsC {u : sA} {v : sD} (h : Rl u v) : ∃ x u' v', fnA_flags u = some (x, u') ∧ fnD_flags v = some (x, v') ∧ Rl u' v' := by
  obtain ⟨wd, rg, st, al, sp, pl, tk, pd, ⟨fn, fz, fv, fc, bi, hi⟩, rfl, rfl, hw, hg, hk, hs⟩ := h
  dsimp only [fnA_flags, fnD_flags]
  rw [W_pk, Option.bind_some]
  exact ⟨_, _, _, rfl, rfl, ⟨_, _, _, _, _, _, _, _, _, rfl, rfl, hw, hg, hk, hs⟩⟩
theorem sim_stopped {u : sA} {v : sD} (h : Rl u v) : ∃ x u' v', fnA_stopped u = some (x, u') ∧ fnD_stopped v = some (x, v') ∧ Rl u' v' := by
  obtain ⟨wd, rg, st, al, sp, pl, tk, pd, wk, rfl, rfl, hw, hg, hk, hs⟩ := h
  exact ⟨_, _, _, rfl, rfl, ⟨_, _, _, _, _, _, _, _, _, rfl, rfl, hw, hg, hk, hs⟩⟩
theorem sim_cycles {u : sA} {v : sD} (h : Rl u v) : ∃ x u' v', fnA_cycles u = some (x, u') ∧ fnD_cycles v = some (x, v') ∧ Rl u' v' := by
  obtain ⟨wd, rg, st, al, sp, pl, tk, pd, wk, rfl, rfl, hw, hg, hk, hs⟩ := h
  exact ⟨_, _, _, rfl, rfl, ⟨_, _, _, _, _, _, _, _, _, rfl, rfl, hw, hg, hk, hs⟩⟩
theorem sim_go {u : sA} {v : sD} (h : Rl u v) : ∃ x u' v', fnA_go u = some (x, u') ∧ fnD_go v = some (x, v') ∧ Rl u' v' := by
  obtain ⟨wd, rg, st, al, sp, pl, tk, pd, wk, rfl, rfl, hw, hg, hk, hs⟩ := h
  dsimp only [fnA_go, fnD_go]
  by_cases e : st = 0
  · rw [if_pos e, if_pos ((st_le hs).mpr e)]
    exact ⟨_, _, _, rfl, rfl, ⟨_, _, _, _, _, _, _, _, _, rfl, rfl, hw, hg, hk, Or.inl rfl⟩⟩
  · rw [if_neg e, if_neg (fun q => e ((st_le hs).mp q))]
    exact ⟨_, _, _, rfl, rfl, ⟨_, _, _, _, _, _, _, _, _, rfl, rfl, hw, hg, hk, Or.inl rfl⟩⟩
