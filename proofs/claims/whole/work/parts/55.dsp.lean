/-! one instruction, whole -/
def dsp (v : sD) (x : Int32) : Option (Int32 × sD) := if (x >>> ((9 : Int32) &&& 31)) = (63 : Int32) then ((fnD_count v x).bind (fun r12 => fnD_step_93 r12.2)) else (if (x >>> ((12 : Int32) &&& 31)) = (7 : Int32) then (fnD_step_62 v) else (if (x >>> ((12 : Int32) &&& 31)) = (15 : Int32) then (fnD_step_62 v) else (if (x >>> ((12 : Int32) &&& 31)) = 0 then (fnD_step_80 v x) else (if (x >>> ((12 : Int32) &&& 31)) = (8 : Int32) then (fnD_step_80 v x) else ((fnD_doTwo v x).bind (fun r10 => fnD_step_93 r10.2))))))
theorem dsp_o (v : sD) {n : Nat} (hn : n < 65536) (h : n / 4096 = 0 ∨ n / 4096 = 8) : dsp v (nI n) = (fnD_doOther v (nI n)).bind (fun r14 => fnD_step_93 r14.2) := by
  unfold dsp
  rw [w_9 hn, w_12 hn, if_neg (show ¬ nI (n / 512) = (63 : Int32) from n_ne (b := 63) (by omega) (by omega) (by omega)), if_neg (show ¬ nI (n / 4096) = (7 : Int32) from n_ne (b := 7) (by omega) (by omega) (by omega)), if_neg (show ¬ nI (n / 4096) = (15 : Int32) from n_ne (b := 15) (by omega) (by omega) (by omega))]
  rcases h with h | h
  · rw [if_pos (show nI (n / 4096) = (0 : Int32) by rw [h]; rfl)]
    rfl
  · rw [if_neg (show ¬ nI (n / 4096) = (0 : Int32) from n_ne (b := 0) (by omega) (by omega) (by omega)), if_pos (show nI (n / 4096) = (8 : Int32) by rw [h]; rfl)]
    rfl
theorem dsp_7 (v : sD) {n : Nat} (hn : n < 65536) (h : n / 4096 = 7 ∨ n / 4096 = 15) (h9 : ¬ n / 512 = 63) : dsp v (nI n) = fnD_step_93 (wy v 2) := by
  unfold dsp
  rw [w_9 hn, w_12 hn, if_neg (show ¬ nI (n / 512) = (63 : Int32) from n_ne (b := 63) h9 (by omega) (by omega))]
  rcases h with h | h
  · rw [if_pos (show nI (n / 4096) = (7 : Int32) by rw [h]; rfl)]
    rfl
  · rw [if_neg (show ¬ nI (n / 4096) = (7 : Int32) from n_ne (b := 7) (by omega) (by omega) (by omega)), if_pos (show nI (n / 4096) = (15 : Int32) by rw [h]; rfl)]
    rfl
theorem dsp_2 (v : sD) {n : Nat} (hn : n < 65536) (h1 : 1 ≤ n / 4096 % 8) (h6 : n / 4096 % 8 ≤ 6) : dsp v (nI n) = (fnD_doTwo v (nI n)).bind (fun r10 => fnD_step_93 r10.2) := by
  unfold dsp
  rw [w_9 hn, w_12 hn, if_neg (show ¬ nI (n / 512) = (63 : Int32) from n_ne (b := 63) (by omega) (by omega) (by omega)), if_neg (show ¬ nI (n / 4096) = (7 : Int32) from n_ne (b := 7) (by omega) (by omega) (by omega)), if_neg (show ¬ nI (n / 4096) = (15 : Int32) from n_ne (b := 15) (by omega) (by omega) (by omega)), if_neg (show ¬ nI (n / 4096) = (0 : Int32) from n_ne (b := 0) (by omega) (by omega) (by omega)), if_neg (show ¬ nI (n / 4096) = (8 : Int32) from n_ne (b := 8) (by omega) (by omega) (by omega))]
theorem dsp_9 (v : sD) {n : Nat} (hn : n < 65536) (h : n / 512 = 63) : dsp v (nI n) = (fnD_count v (nI n)).bind (fun r12 => fnD_step_93 r12.2) := by
  unfold dsp
  rw [w_9 hn, if_pos (show nI (n / 512) = (63 : Int32) by rw [h]; rfl)]
theorem z1 : ¬ (1 : Int32) = 0 := by decide
theorem sim_dsp (wd rg : Nat → Int32) (hw : ∀ j, rng (wd j)) (hg : ∀ j, rng (rg j)) (al : Int64) (sp pl pd : Int32) (wk : sW) (hk : okW wk) {n : Nat} (hn : n < 65536) :
    ∃ rA rD, fnA_perform (wd, rg, 0, al, sp, pl, wk) (nI n) = some ((), rA) ∧ dsp (wd, rg, pk wk, 0, al, sp, pd) (nI n) = fnD_step_93 rD ∧ RI al sp rA rD := by
  dsimp only [fnA_perform]
  rw [A_i2 hn, Option.bind_some]
  dsimp only
  by_cases c2 : 1 ≤ n / 4096 % 8 ∧ n / 4096 % 8 ≤ 6
  · obtain ⟨rA, rD, p1, p2, p3⟩ := sim_doTwo wd rg hw hg al sp pl pd wk hk hn c2.1 c2.2
    rw [if_pos c2, if_neg z1, p1, Option.bind_some, dsp_2 _ hn c2.1 c2.2, p2, Option.bind_some]
    exact ⟨rA, rD, rfl, rfl, p3⟩
  · rw [if_neg c2, if_pos rfl, A_i1 hn, Option.bind_some]
    dsimp only
    by_cases c1 : (40 ≤ n % 32768 / 64 ∧ n % 32768 / 64 ≤ 51) ∨ n / 64 = 3
    · rw [if_pos c1, if_neg z1]
      by_cases c3 : n / 64 = 3
      · obtain ⟨rA, rD, p1, p2, p3⟩ := sim_doOne wd rg hw hg al sp pl pd wk hk hn (m := 3) (by omega) (b := 0) (Or.inl ⟨rfl, by omega⟩) (Or.inr ⟨rfl, rfl⟩)
        rw [p1, Option.bind_some, dsp_o _ hn (by omega), D_ot _ hn, if_neg (by omega), if_neg (by omega), D_85 _ hn, if_neg (by omega), if_pos c3, p2]
        exact ⟨rA, rD, rfl, rfl, p3⟩
      · have c4 : 40 ≤ n % 32768 / 64 ∧ n % 32768 / 64 ≤ 51 := c1.resolve_right c3
        have hb : ((if n < 32768 then (0 : Int32) else 1) = 0 ∧ n < 32768) ∨ ((if n < 32768 then (0 : Int32) else 1) = 1 ∧ 32768 ≤ n) := by
          by_cases h : n < 32768
          · exact Or.inl ⟨if_pos h, h⟩
          · exact Or.inr ⟨if_neg h, by omega⟩
        obtain ⟨rA, rD, p1, p2, p3⟩ := sim_doOne wd rg hw hg al sp pl pd wk hk hn (m := n / 64 % 512) (by omega) hb (Or.inl (by omega))
        rw [p1, Option.bind_some, dsp_o _ hn (by omega), D_ot _ hn, if_neg (show ¬ ((1 ≤ n / 256 ∧ n / 256 ≤ 7) ∨ (128 ≤ n / 256 ∧ n / 256 ≤ 135)) by omega), if_pos (show 40 ≤ n / 64 % 512 ∧ n / 64 % 512 ≤ 51 by omega), p2]
        exact ⟨rA, rD, rfl, rfl, p3⟩
    · rw [if_neg c1, if_pos rfl, A_ib hn, Option.bind_some]
      dsimp only
      by_cases cb : (1 ≤ n / 256 ∧ n / 256 ≤ 7) ∨ (128 ≤ n / 256 ∧ n / 256 ≤ 135)
      · obtain ⟨rA, rD, p1, p2, p3⟩ := sim_branch wd rg hw hg al sp pl pd wk hk hn cb
        rw [if_pos cb, if_neg z1, p1, Option.bind_some, dsp_o _ hn (by omega), D_ot _ hn, if_pos cb, p2]
        exact ⟨rA, rD, rfl, rfl, p3⟩
      · rw [if_neg cb, if_pos rfl, w_9 hn, w_6 hn, w_3 hn]
        by_cases c9 : n / 512 = 63
        · obtain ⟨rA, rD, p1, p2, p3⟩ := sim_sob wd rg hw hg al sp pl pd wk hk hn
          rw [if_pos (show nI (n / 512) = (63 : Int32) by rw [c9]; rfl), p1, Option.bind_some, dsp_9 _ hn c9, p2]
          exact ⟨rA, rD, rfl, rfl, p3⟩
        · rw [if_neg (show ¬ nI (n / 512) = (63 : Int32) from n_ne (b := 63) c9 (by omega) (by omega))]
          by_cases cj : n / 64 = 1
          · obtain ⟨rA, rD, p1, p2, p3⟩ := sim_jmp wd rg hw hg al sp pl pd wk hk hn cj
            rw [if_pos (show nI (n / 64) = (1 : Int32) by rw [cj]; rfl), p1, Option.bind_some, dsp_o _ hn (by omega), D_ot _ hn, if_neg cb, if_neg (by omega), D_85 _ hn, if_neg (by omega), if_neg (by omega), if_pos (Or.inl cj), p2]
            exact ⟨rA, rD, rfl, rfl, p3⟩
          · rw [if_neg (show ¬ nI (n / 64) = (1 : Int32) from n_ne (b := 1) cj (by omega) (by omega))]
            by_cases cs : n / 512 = 4
            · obtain ⟨rA, rD, p1, p2, p3⟩ := sim_jsr wd rg hw hg al sp pl pd wk hk hn cj
              rw [if_pos (show nI (n / 512) = (4 : Int32) by rw [cs]; rfl), p1, Option.bind_some, dsp_o _ hn (by omega), D_ot _ hn, if_neg cb, if_neg (by omega), D_85 _ hn, if_neg (by omega), if_neg (by omega), if_pos (Or.inr cs), p2]
              exact ⟨rA, rD, rfl, rfl, p3⟩
            · rw [if_neg (show ¬ nI (n / 512) = (4 : Int32) from n_ne (b := 4) cs (by omega) (by omega))]
              by_cases cr : n / 8 = 16
              · obtain ⟨rA, rD, p1, p2, p3⟩ := sim_rts wd rg hw hg al sp pl pd wk hk hn
                rw [if_pos (show nI (n / 8) = (16 : Int32) by rw [cr]; rfl), p1, Option.bind_some, dsp_o _ hn (by omega), D_ot _ hn, if_neg cb, if_neg (by omega), D_85 _ hn, if_neg (by omega), if_neg (by omega), if_neg (by omega), if_pos (show 128 ≤ n ∧ n < 136 by omega), p2]
                exact ⟨rA, rD, rfl, rfl, p3⟩
              · rw [if_neg (show ¬ nI (n / 8) = (16 : Int32) from n_ne (b := 16) cr (by omega) (by omega))]
                by_cases cf : 160 ≤ n ∧ n ≤ 191
                · obtain ⟨rA, rD, p1, p2, p3⟩ := sim_flags wd rg hw hg al sp pl pd wk hk cf.1 cf.2
                  rw [if_neg (show ¬ nI n < (160 : Int32) from n_nlt (b := 160) cf.1 hn), if_neg (show ¬ (191 : Int32) < nI n from n_nlt (a := 191) cf.2 (by omega)), p1, Option.bind_some, dsp_o _ hn (by omega), D_ot _ hn, if_neg cb, if_neg (by omega), D_85 _ hn, if_neg (by omega), if_neg (by omega), if_neg (by omega), if_neg (by omega), if_pos (show 160 ≤ n ∧ n < 192 by omega), p2]
                  exact ⟨rA, rD, rfl, rfl, p3⟩
                · have hA : (if nI n < (160 : Int32) then fnA_perform_135 (wd, rg, 0, al, sp, pl, wk) (nI n) else (if (191 : Int32) < nI n then fnA_perform_135 (wd, rg, 0, al, sp, pl, wk) (nI n) else ((fnA_doFlags (wd, rg, 0, al, sp, pl, wk) (nI n)).bind (fun r16 => fnA_perform_148 r16.2)))) = some ((), (wd, rg, (if n = 0 then 1 else 2), al, sp, pl, wk)) := by
                    have h135 : fnA_perform_135 (wd, rg, 0, al, sp, pl, wk) (nI n) = some ((), (wd, rg, (if n = 0 then 1 else 2), al, sp, pl, wk)) := by
                      dsimp only [fnA_perform_135]
                      by_cases h0 : n = 0
                      · subst h0
                        rw [if_pos (show nI 0 = (0 : Int32) from rfl)]
                        rfl
                      · rw [if_neg (show ¬ nI n = (0 : Int32) from n_ne (b := 0) h0 hn (by omega)), if_neg h0]
                        rfl
                    by_cases h1 : n < 160
                    · rw [if_pos (show nI n < (160 : Int32) from n_lt (b := 160) h1 (by omega)), h135]
                    · rw [if_neg (show ¬ nI n < (160 : Int32) from n_nlt (b := 160) (by omega) hn), if_pos (show (191 : Int32) < nI n from n_lt (a := 191) (by omega) hn), h135]
                  rw [hA]
                  have hst : okst (if n = 0 then (1 : Int32) else 2) := by
                    split
                    · exact Or.inr (Or.inl rfl)
                    · exact st_2
                  have hne : ¬ (if n = 0 then (1 : Int32) else 2) = 0 := by
                    split <;> decide
                  refine ⟨_, (wd, rg, pk wk, (if n = 0 then 1 else 2), al, sp, pd), rfl, ?_, RI_st hw hg hk hst hne⟩
                  by_cases c7 : n / 4096 % 8 = 7
                  · rw [dsp_7 _ hn (by omega) c9, if_neg (show ¬ n = 0 by omega)]
                    rfl
                  · rw [dsp_o _ hn (by omega), D_ot _ hn, if_neg cb, if_neg (show ¬ (40 ≤ n / 64 % 512 ∧ n / 64 % 512 ≤ 51) by omega), D_85 _ hn]
                    by_cases h8 : 32768 ≤ n
                    · rw [if_pos h8, if_neg (show ¬ n = 0 by omega)]
                      rfl
                    · rw [if_neg h8, if_neg (show ¬ n / 64 = 3 by omega), if_neg (show ¬ (n / 64 = 1 ∨ n / 512 = 4) by omega), if_neg (show ¬ (128 ≤ n ∧ n < 136) by omega), if_neg (show ¬ (160 ≤ n ∧ n < 192) by omega)]
                      rfl
