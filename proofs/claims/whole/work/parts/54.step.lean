/-! which instruction it is -/
theorem A_i2 {n : Nat} (hn : n < 65536) : fnA_isOfTwoOperands (nI n) = some (if 1 ≤ n / 4096 % 8 ∧ n / 4096 % 8 ≤ 6 then 1 else 0, ()) := by
  dsimp only [fnA_isOfTwoOperands]
  rw [w_12 hn, d_r]
  by_cases h1 : 1 ≤ n / 4096 % 8
  · rw [if_neg (show ¬ nI (n / 4096 % 8) < (1 : Int32) from n_nlt (b := 1) h1 (by omega))]
    by_cases h6 : n / 4096 % 8 ≤ 6
    · rw [if_neg (show ¬ (6 : Int32) < nI (n / 4096 % 8) from n_nlt (a := 6) h6 (by omega)), if_pos ⟨h1, h6⟩]
      rfl
    · rw [if_pos (show (6 : Int32) < nI (n / 4096 % 8) from n_lt (a := 6) (by omega) (by omega)), if_neg (fun q => h6 q.2)]
      rfl
  · rw [if_pos (show nI (n / 4096 % 8) < (1 : Int32) from n_lt (b := 1) (by omega) (by omega)), if_neg (fun q => h1 q.1)]
    rfl
theorem A_i1 {n : Nat} (hn : n < 65536) : fnA_isOfOneOperand (nI n) = some (if (40 ≤ n % 32768 / 64 ∧ n % 32768 / 64 ≤ 51) ∨ n / 64 = 3 then 1 else 0, ()) := by
  dsimp only [fnA_isOfOneOperand]
  rw [q_mk hn, w_6 (n := n % 32768) (by omega)]
  have h20 : ¬ (40 ≤ n % 32768 / 64 ∧ n % 32768 / 64 ≤ 51) → fnA_isOfOneOperand_20 (nI n) = some (if (40 ≤ n % 32768 / 64 ∧ n % 32768 / 64 ≤ 51) ∨ n / 64 = 3 then 1 else 0, ()) := by
    intro h
    dsimp only [fnA_isOfOneOperand_20]
    rw [w_6 hn]
    by_cases h3 : n / 64 = 3
    · rw [if_pos (show nI (n / 64) = (3 : Int32) by rw [h3]; rfl), if_pos (Or.inr h3)]
      rfl
    · rw [if_neg (show ¬ nI (n / 64) = (3 : Int32) from n_ne (b := 3) h3 (by omega) (by omega)), if_neg (fun q => q.elim h h3)]
      rfl
  by_cases h1 : 40 ≤ n % 32768 / 64
  · rw [if_neg (show ¬ nI (n % 32768 / 64) < (40 : Int32) from n_nlt (b := 40) h1 (by omega))]
    by_cases h6 : n % 32768 / 64 ≤ 51
    · rw [if_pos (show nI (n % 32768 / 64) ≤ (51 : Int32) from n_le (b := 51) h6 (by omega)), if_pos (Or.inl ⟨h1, h6⟩)]
      rfl
    · rw [if_neg (show ¬ nI (n % 32768 / 64) ≤ (51 : Int32) from n_nle (a := 51) (by omega) (by omega))]
      exact h20 (fun q => h6 q.2)
  · rw [if_pos (show nI (n % 32768 / 64) < (40 : Int32) from n_lt (b := 40) (by omega) (by omega))]
    exact h20 (fun q => h1 q.1)
theorem A_ib {n : Nat} (hn : n < 65536) : fnA_isBranch (nI n) = some (if (1 ≤ n / 256 ∧ n / 256 ≤ 7) ∨ (128 ≤ n / 256 ∧ n / 256 ≤ 135) then 1 else 0, ()) := by
  dsimp only [fnA_isBranch]
  rw [w_8 hn]
  have h16 : ¬ (1 ≤ n / 256 ∧ n / 256 ≤ 7) → fnA_isBranch_16 (nI (n / 256)) = some (if (1 ≤ n / 256 ∧ n / 256 ≤ 7) ∨ (128 ≤ n / 256 ∧ n / 256 ≤ 135) then 1 else 0, ()) := by
    intro h
    dsimp only [fnA_isBranch_16]
    by_cases h1 : 128 ≤ n / 256
    · rw [if_neg (show ¬ nI (n / 256) < (128 : Int32) from n_nlt (b := 128) h1 (by omega))]
      by_cases h6 : n / 256 ≤ 135
      · rw [if_neg (show ¬ (135 : Int32) < nI (n / 256) from n_nlt (a := 135) h6 (by omega)), if_pos (Or.inr ⟨h1, h6⟩)]
        rfl
      · rw [if_pos (show (135 : Int32) < nI (n / 256) from n_lt (a := 135) (by omega) (by omega)), if_neg (fun q => q.elim h (fun w => h6 w.2))]
        rfl
    · rw [if_pos (show nI (n / 256) < (128 : Int32) from n_lt (b := 128) (by omega) (by omega)), if_neg (fun q => q.elim h (fun w => h1 w.1))]
      rfl
  by_cases h1 : 1 ≤ n / 256
  · rw [if_neg (show ¬ nI (n / 256) < (1 : Int32) from n_nlt (b := 1) h1 (by omega))]
    by_cases h6 : n / 256 ≤ 7
    · rw [if_pos (show nI (n / 256) ≤ (7 : Int32) from n_le (b := 7) h6 (by omega)), if_pos (Or.inl ⟨h1, h6⟩)]
      rfl
    · rw [if_neg (show ¬ nI (n / 256) ≤ (7 : Int32) from n_nle (a := 7) (by omega) (by omega))]
      exact h16 (fun q => h6 q.2)
  · rw [if_pos (show nI (n / 256) < (1 : Int32) from n_lt (b := 1) (by omega) (by omega))]
    exact h16 (fun q => h1 q.1)
def wy (v : sD) (k : Int32) : sD := (v.1, v.2.1, v.2.2.1, k, v.2.2.2.2)
theorem D_154 (v : sD) {n : Nat} (hn : n < 65536) : fnD_doOther_154 v (nI n) = if 160 ≤ n ∧ n < 192 then (fnD_flag v (nI n)).bind (fun r => some ((), r.2)) else some ((), wy v (if n = 0 then 1 else 2)) := by
  have h176 : fnD_doOther_176 v (nI n) = some ((), wy v (if n = 0 then 1 else 2)) := by
    dsimp only [fnD_doOther_176]
    by_cases h0 : n = 0
    · subst h0
      rw [if_pos (show nI 0 = (0 : Int32) from rfl)]
      rfl
    · rw [if_neg (show ¬ nI n = (0 : Int32) from n_ne (b := 0) h0 hn (by omega)), if_neg h0]
      rfl
  dsimp only [fnD_doOther_154]
  by_cases h1 : n < 160
  · rw [if_pos (show nI n < (160 : Int32) from n_lt (b := 160) h1 (by omega)), h176, if_neg (show ¬ (160 ≤ n ∧ n < 192) by omega)]
  · rw [if_neg (show ¬ nI n < (160 : Int32) from n_nlt (b := 160) (by omega) hn)]
    by_cases h2 : 192 ≤ n
    · rw [if_pos (show (192 : Int32) ≤ nI n from n_le (a := 192) h2 hn), h176, if_neg (show ¬ (160 ≤ n ∧ n < 192) by omega)]
    · rw [if_neg (show ¬ (192 : Int32) ≤ nI n from n_nle (b := 192) (by omega) (by omega)), if_pos (by omega)]
      rfl
theorem D_85 (v : sD) {n : Nat} (hn : n < 65536) : fnD_doOther_85 v (nI n) (nI (n / 64 % 512)) (if n < 32768 then 0 else 1) = if 32768 ≤ n then some ((), wy v 2) else if n / 64 = 3 then (fnD_doOne v (nI n) (nI 3) 0).bind (fun r => some ((), r.2)) else if n / 64 = 1 ∨ n / 512 = 4 then (fnD_jump v (nI n)).bind (fun r => some ((), r.2)) else if 128 ≤ n ∧ n < 136 then (fnD_back v (nI n)).bind (fun r => some ((), r.2)) else if 160 ≤ n ∧ n < 192 then (fnD_flag v (nI n)).bind (fun r => some ((), r.2)) else some ((), wy v (if n = 0 then 1 else 2)) := by
  dsimp only [fnD_doOther_85]
  by_cases h0 : n < 32768
  · have e : n / 64 % 512 = n / 64 := by omega
    rw [if_pos h0, if_pos rfl, if_neg (show ¬ 32768 ≤ n by omega), e, w_3 (n := n / 64) (by omega)]
    by_cases h3 : n / 64 = 3
    · rw [if_pos (show nI (n / 64) = (3 : Int32) by rw [h3]; rfl), if_pos h3]
      rfl
    · rw [if_neg (show ¬ nI (n / 64) = (3 : Int32) from n_ne (b := 3) h3 (by omega) (by omega)), if_neg h3]
      by_cases h1 : n / 64 = 1
      · rw [if_pos (show nI (n / 64) = (1 : Int32) by rw [h1]; rfl), if_pos (Or.inl h1)]
        rfl
      · rw [if_neg (show ¬ nI (n / 64) = (1 : Int32) from n_ne (b := 1) h1 (by omega) (by omega))]
        by_cases h4 : n / 512 = 4
        · rw [if_pos (show nI (n / 64 / 8) = (4 : Int32) by rw [show n / 64 / 8 = 4 by omega]; rfl), if_pos (Or.inr h4)]
          rfl
        · rw [if_neg (show ¬ nI (n / 64 / 8) = (4 : Int32) from n_ne (b := 4) (by omega) (by omega) (by omega)), if_neg (show ¬ (n / 64 = 1 ∨ n / 512 = 4) by omega)]
          by_cases h5 : n < 128
          · rw [if_pos (show nI n < (128 : Int32) from n_lt (b := 128) h5 (by omega)), D_154 v hn, if_neg (show ¬ (128 ≤ n ∧ n < 136) by omega)]
          · rw [if_neg (show ¬ nI n < (128 : Int32) from n_nlt (b := 128) (by omega) hn)]
            by_cases h6 : 136 ≤ n
            · rw [if_pos (show (136 : Int32) ≤ nI n from n_le (a := 136) h6 hn), D_154 v hn, if_neg (show ¬ (128 ≤ n ∧ n < 136) by omega)]
            · rw [if_neg (show ¬ (136 : Int32) ≤ nI n from n_nle (b := 136) (by omega) (by omega)), if_pos (show 128 ≤ n ∧ n < 136 by omega)]
              rfl
  · rw [if_neg h0, if_neg (show ¬ (1 : Int32) = 0 by decide), if_pos (show 32768 ≤ n by omega)]
    rfl
theorem D_ot (v : sD) {n : Nat} (hn : n < 65536) : fnD_doOther v (nI n) = if (1 ≤ n / 256 ∧ n / 256 ≤ 7) ∨ (128 ≤ n / 256 ∧ n / 256 ≤ 135) then (fnD_branch v (nI n)).bind (fun r => some ((), r.2)) else if 40 ≤ n / 64 % 512 ∧ n / 64 % 512 ≤ 51 then (fnD_doOne v (nI n) (nI (n / 64 % 512)) (if n < 32768 then 0 else 1)).bind (fun r => some ((), r.2)) else fnD_doOther_85 v (nI n) (nI (n / 64 % 512)) (if n < 32768 then 0 else 1) := by
  have e0 : fnD_doOther v (nI n) = fnD_doOther_21 v (nI n) (nI (n / 64 % 512)) (if n < 32768 then 0 else 1) := by
    dsimp only [fnD_doOther]
    rw [w_6 hn, show nI (n / 64) &&& (511 : Int32) = nI (n / 64 % 512) from pk_andN (by omega) 9 (by decide)]
    by_cases h : n < 32768
    · rw [if_pos (show nI n ≤ (32767 : Int32) from n_le (b := 32767) (by omega) (by omega)), if_pos h]
    · rw [if_neg (show ¬ nI n ≤ (32767 : Int32) from n_nle (a := 32767) (by omega) hn), if_neg h]
  have e63 : fnD_doOther_63 v (nI n) (nI (n / 64 % 512)) (if n < 32768 then 0 else 1) = if 40 ≤ n / 64 % 512 ∧ n / 64 % 512 ≤ 51 then (fnD_doOne v (nI n) (nI (n / 64 % 512)) (if n < 32768 then 0 else 1)).bind (fun r => some ((), r.2)) else fnD_doOther_85 v (nI n) (nI (n / 64 % 512)) (if n < 32768 then 0 else 1) := by
    dsimp only [fnD_doOther_63]
    generalize (if n < 32768 then (0 : Int32) else 1) = sm
    by_cases h1 : 40 ≤ n / 64 % 512
    · rw [if_neg (show ¬ nI (n / 64 % 512) < (40 : Int32) from n_nlt (b := 40) h1 (by omega))]
      by_cases h2 : n / 64 % 512 ≤ 51
      · rw [if_neg (show ¬ (51 : Int32) < nI (n / 64 % 512) from n_nlt (a := 51) h2 (by omega)), if_pos ⟨h1, h2⟩]
        rfl
      · rw [if_pos (show (51 : Int32) < nI (n / 64 % 512) from n_lt (a := 51) (by omega) (by omega)), if_neg (fun q => h2 q.2)]
    · rw [if_pos (show nI (n / 64 % 512) < (40 : Int32) from n_lt (b := 40) (by omega) (by omega)), if_neg (fun q => h1 q.1)]
  rw [e0, ← e63]
  generalize (if n < 32768 then (0 : Int32) else 1) = sm
  dsimp only [fnD_doOther_21]
  rw [w_8 hn]
  have e40 : ¬ (1 ≤ n / 256 ∧ n / 256 ≤ 7) → fnD_doOther_40 v (nI n) (nI (n / 64 % 512)) sm (nI (n / 256)) = if (1 ≤ n / 256 ∧ n / 256 ≤ 7) ∨ (128 ≤ n / 256 ∧ n / 256 ≤ 135) then (fnD_branch v (nI n)).bind (fun r => some ((), r.2)) else fnD_doOther_63 v (nI n) (nI (n / 64 % 512)) sm := by
    intro h
    dsimp only [fnD_doOther_40]
    by_cases h1 : n / 256 ≤ 127
    · rw [if_pos (show nI (n / 256) ≤ (127 : Int32) from n_le (b := 127) h1 (by omega)), if_neg (fun q => q.elim h (fun w => by omega))]
    · rw [if_neg (show ¬ nI (n / 256) ≤ (127 : Int32) from n_nle (a := 127) (by omega) (by omega))]
      by_cases h2 : 136 ≤ n / 256
      · rw [if_pos (show (136 : Int32) ≤ nI (n / 256) from n_le (a := 136) h2 (by omega)), if_neg (fun q => q.elim h (fun w => by omega))]
      · rw [if_neg (show ¬ (136 : Int32) ≤ nI (n / 256) from n_nle (b := 136) (by omega) (by omega)), if_pos (Or.inr (by omega))]
        rfl
  by_cases h0 : n / 256 = 0
  · rw [if_pos (show nI (n / 256) ≤ (0 : Int32) from n_le (b := 0) (by omega) (by omega))]
    exact e40 (by omega)
  · rw [if_neg (show ¬ nI (n / 256) ≤ (0 : Int32) from n_nle (a := 0) (by omega) (by omega))]
    by_cases h7 : n / 256 < 8
    · rw [if_pos (show nI (n / 256) < (8 : Int32) from n_lt (b := 8) h7 (by omega)), if_pos (Or.inl (by omega))]
      rfl
    · rw [if_neg (show ¬ nI (n / 256) < (8 : Int32) from n_nlt (b := 8) (by omega) (by omega))]
      exact e40 (by omega)
