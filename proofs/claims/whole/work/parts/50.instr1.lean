/-! the other instructions -/
theorem bt_nI {n i : Nat} (hi : i < 32) : bt (nI n) i = n.testBit i := by
  show (BitVec.ofNat 32 n).getLsbD i = _
  rw [BitVec.getLsbD_ofNat]
  simp [hi]
theorem q_15 {n : Nat} (hn : n < 65536) : nI n &&& (32768 : Int32) = 0 ↔ n < 32768 := by
  constructor
  · intro h
    have h1 : bt (nI n &&& (32768 : Int32)) 15 = false := by rw [h, b_0]
    rw [b_and, bt_nI (by decide), bt_32768 15 (by decide)] at h1
    simp only [decide_true, Bool.and_true] at h1
    rw [Nat.testBit_eq_decide_div_mod_eq] at h1
    have h2 : ¬ n / 2 ^ 15 % 2 = 1 := of_decide_eq_false h1
    omega
  · intro h
    have e : nI n = nI n &&& (32767 : Int32) := by
      rw [pk_andN (m := 32767) (by omega) 15 (by decide), Nat.mod_eq_of_lt (by omega)]
    rw [e, a_as, show (32767 : Int32) &&& (32768 : Int32) = 0 by decide]
    exact b_ext (fun i _ => by rw [b_and, b_0, Bool.and_false])
theorem q_mk {n : Nat} (hn : n < 65536) : nI n &&& (-32769 : Int32) = nI (n % 32768) := by
  have e : nI n &&& (-32769 : Int32) = (nI n &&& (65535 : Int32)) &&& (-32769 : Int32) := by rw [q_m16 (rng_nI hn)]
  rw [e, a_as, show (65535 : Int32) &&& (-32769 : Int32) = 32767 by decide]
  exact pk_andN (m := 32767) (by omega) 15 (by decide)
theorem a_7 (n : Nat) : nI n &&& (7 : Int32) = nI (n % 8) := d_r
theorem k_16 {m : Nat} (h1 : 1 ≤ m) (h6 : m ≤ 6) : nI m = 1 ∨ nI m = 2 ∨ nI m = 3 ∨ nI m = 4 ∨ nI m = 5 ∨ nI m = 6 := by
  rcases (show m = 1 ∨ m = 2 ∨ m = 3 ∨ m = 4 ∨ m = 5 ∨ m = 6 by omega) with rfl | rfl | rfl | rfl | rfl | rfl
  · exact Or.inl rfl
  · exact Or.inr (Or.inl rfl)
  · exact Or.inr (Or.inr (Or.inl rfl))
  · exact Or.inr (Or.inr (Or.inr (Or.inl rfl)))
  · exact Or.inr (Or.inr (Or.inr (Or.inr (Or.inl rfl))))
  · exact Or.inr (Or.inr (Or.inr (Or.inr (Or.inr rfl))))
theorem n_le {a b : Nat} (h : a ≤ b) (hb : b < 65536) : nI a ≤ nI b := nI_le h (by omega)
theorem n_nle {a b : Nat} (h : a < b) (hb : b < 65536) : ¬ nI b ≤ nI a := nI_ge h (by omega)
theorem n_lt {a b : Nat} (h : a < b) (hb : b < 65536) : nI a < nI b := nI_lt h (by omega)
theorem n_nlt {a b : Nat} (h : b ≤ a) (ha : a < 65536) : ¬ nI a < nI b := nI_nlt h (by omega)
theorem n_ne {a b : Nat} (h : ¬ a = b) (ha : a < 65536) (hb : b < 65536) : ¬ nI a = nI b := fun q => h ((z_eq ha hb).mp q)
theorem sim_doTwo (wd rg : Nat → Int32) (hw : ∀ j, rng (wd j)) (hg : ∀ j, rng (rg j)) (al : Int64) (sp pl pd : Int32) (wk : sW) (hk : okW wk) {n : Nat} (hn : n < 65536) (h1 : 1 ≤ n / 4096 % 8) (h6 : n / 4096 % 8 ≤ 6) :
    ∃ rA rD, fnA_doTwoOperands (wd, rg, 0, al, sp, pl, wk) (nI n) = some ((), rA) ∧ fnD_doTwo (wd, rg, pk wk, 0, al, sp, pd) (nI n) = some ((), rD) ∧ RI al sp rA rD := by
  dsimp only [fnA_doTwoOperands, fnD_doTwo]
  rw [w_12 hn]
  by_cases e14 : n / 4096 = 14
  · rw [if_pos (show nI (n / 4096) = (14 : Int32) by rw [e14]; rfl), if_neg (show ¬ nI (n / 4096) ≤ (8 : Int32) from n_nle (a := 8) (b := n / 4096) (by omega) (by omega)), if_pos (show (14 : Int32) ≤ nI (n / 4096) from n_le (a := 14) (b := n / 4096) (by omega) (by omega))]
    dsimp only [fnA_doTwoOperands_14, fnD_doTwo_21, fnD_doTwo_22]
    rw [if_neg (show ¬ (1 : Int32) = 0 by decide), if_pos (show nI (n / 4096) = (14 : Int32) by rw [e14]; rfl)]
    dsimp only [fnA_doTwoOperands_30]
    exact sim_31 wd rg hw hg al sp pl pd wk hk hn (Or.inl rfl) (Or.inr ⟨rfl, rfl⟩) (Or.inr ⟨rfl, rfl⟩)
  · have hk16 : nI (n / 4096) &&& (7 : Int32) = 1 ∨ nI (n / 4096) &&& (7 : Int32) = 2 ∨ nI (n / 4096) &&& (7 : Int32) = 3 ∨ nI (n / 4096) &&& (7 : Int32) = 4 ∨ nI (n / 4096) &&& (7 : Int32) = 5 ∨ nI (n / 4096) &&& (7 : Int32) = 6 := by
      rw [a_7]
      exact k_16 h1 h6
    rw [if_neg (show ¬ nI (n / 4096) = (14 : Int32) from n_ne (b := 14) e14 (by omega) (by omega))]
    dsimp only [fnA_doTwoOperands_14]
    rw [if_pos rfl]
    by_cases h8 : n / 4096 ≤ 8
    · rw [if_pos ((q_15 hn).mpr (by omega)), if_pos (show nI (n / 4096) ≤ (8 : Int32) from n_le (b := 8) h8 (by omega))]
      dsimp only [fnA_doTwoOperands_30, fnD_doTwo_21, fnD_doTwo_22]
      rw [if_neg (show ¬ nI (n / 4096) = (14 : Int32) from n_ne (b := 14) e14 (by omega) (by omega))]
      exact sim_31 wd rg hw hg al sp pl pd wk hk hn (Or.inl rfl) (Or.inl ⟨rfl, rfl⟩) (Or.inl ⟨rfl, hk16⟩)
    · rw [if_neg (fun q => absurd ((q_15 hn).mp q) (by omega)), if_neg (show ¬ nI (n / 4096) ≤ (8 : Int32) from n_nle (a := 8) (b := n / 4096) (by omega) (by omega)), if_neg (show ¬ (14 : Int32) ≤ nI (n / 4096) from n_nle (a := n / 4096) (b := 14) (by omega) (by omega))]
      dsimp only [fnD_doTwo_22]
      rw [if_neg (show ¬ nI (n / 4096) = (14 : Int32) from n_ne (b := 14) e14 (by omega) (by omega))]
      exact sim_31 wd rg hw hg al sp pl pd wk hk hn (Or.inr rfl) (Or.inl ⟨rfl, rfl⟩) (Or.inl ⟨rfl, hk16⟩)
