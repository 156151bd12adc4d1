/-! instructions of two operands -/
def okst (x : Int32) : Prop := x = 0 ∨ x = 1 ∨ x = 2 ∨ x = 3 ∨ x = 4
/-- behind an instruction -/
def RI (al : Int64) (sp0 : Int32) (rA : sA) (rD : sD) : Prop := rA.1 = rD.1 ∧ rA.2.1 = rD.2.1 ∧ rA.2.2.1 = rD.2.2.2.1 ∧ rA.2.2.2.1 = al ∧ rD.2.2.2.2.1 = al ∧ rD.2.2.1 = pk rA.2.2.2.2.2.2 ∧ okW rA.2.2.2.2.2.2 ∧ (∀ j, rng (rA.1 j)) ∧ (∀ j, rng (rA.2.1 j)) ∧ okst rA.2.2.1 ∧ (rA.2.2.1 = 0 → rA.2.2.2.2.1 = rD.2.2.2.2.2.1 ∧ J 40 sp0 rA.2.2.2.2.1)
theorem RI_ok {wd g : Nat → Int32} {al : Int64} {sp0 sp pl pd : Int32} {wk : sW} (hw : ∀ j, rng (wd j)) (hg : ∀ j, rng (g j)) (hk : okW wk) (hj : J 40 sp0 sp) : RI al sp0 (wd, g, 0, al, sp, pl, wk) (wd, g, pk wk, 0, al, sp, pd) := ⟨rfl, rfl, rfl, rfl, rfl, rfl, hk, hw, hg, Or.inl rfl, fun _ => ⟨rfl, hj⟩⟩
theorem RI_st {wd g : Nat → Int32} {al : Int64} {sp0 er sp tk pl pd : Int32} {wk : sW} (hw : ∀ j, rng (wd j)) (hg : ∀ j, rng (g j)) (hk : okW wk) (he : okst er) (h0 : ¬ er = 0) : RI al sp0 (wd, g, er, al, sp, pl, wk) (wd, g, pk wk, er, al, tk, pd) := ⟨rfl, rfl, rfl, rfl, rfl, rfl, hk, hw, hg, he, fun h => absurd h h0⟩
def bit (b : Int32) : Int32 := if b = 0 then 65535 else 255
def hit (b : Int32) : Int32 := if b = 0 then 32768 else 128
theorem wdt_b {b : Int32} (hb : b = 0 ∨ b = 1) : wdt b (bit b) (hit b) := by
  rcases hb with rfl | rfl
  · exact Or.inl ⟨rfl, rfl, rfl⟩
  · exact Or.inr ⟨rfl, rfl, rfl⟩
theorem W_tw (n z v c bi hi : Int32) {b : Int32} (hb : b = 0 ∨ b = 1) : fnW_takeWidth (n, z, v, c, bi, hi) b = some ((), (n, z, v, c, bit b, hit b)) := by
  rcases hb with rfl | rfl <;> rfl
theorem sim_87 (wd g : Nat → Int32) (hw : ∀ j, rng (wd j)) (hg : ∀ j, rng (g j)) (al : Int64) (sp pl pd : Int32) (wk : sW) (hk : okW wk) {n : Nat} {b s d : Int32} (hb : b = 0 ∨ b = 1) (hs : vb b s) (hd : vb b d) (hp : PR pl pd (n % 8) b) {sp0 : Int32} (hj : J 10 sp0 sp) {kA kD : Int32} (hkk : (kA = kD ∧ (kA = 1 ∨ kA = 2 ∨ kA = 3 ∨ kA = 4 ∨ kA = 5 ∨ kA = 6)) ∨ (kA = 14 ∧ kD = 7)) :
    ∃ rA rD, fnA_doTwoOperands_87 (wd, g, 0, al, sp, pl, wk) (nI n) b s d kA = some ((), rA) ∧ fnD_doTwo_120 (wd, g, pk wk, 0, al, sp + 1, pd) b kD (hit b) d s kD = some ((), rD) ∧ RI al sp0 rA rD := by
  obtain ⟨fn, fz, fv, fc, bi0, hi0⟩ := wk
  have hk2 : okW (fn, fz, fv, fc, bit b, hit b) := hk
  obtain ⟨x, w', h1, h2, hx, hw', -⟩ := sim_two wd g (al, sp + 1, pd) hk2 (wdt_b hb) hs hd hkk
  have hr : n % 8 < 8 := Nat.mod_lt _ (by decide)
  dsimp only [fnA_doTwoOperands_87, fnD_doTwo_120]
  rw [W_tw fn fz fv fc bi0 hi0 hb, Option.bind_some]
  dsimp only
  rw [h1, Option.bind_some, show pk (fn, fz, fv, fc, bi0, hi0) = pk (fn, fz, fv, fc, bit b, hit b) from rfl, h2, Option.bind_some]
  dsimp only
  -- the end that puts a result
  have put : ∀ wh : Int32, (b = 0 ∨ wh = 0 ∨ ¬ pl = (-1 : Int32)) → ¬ kA = 2 → ¬ kA = 3 → ∃ rA rD, fnA_doTwoOperands_153 (wd, g, 0, al, sp + 1, pl, w') (nI n) b kA x = some ((), rA) ∧ fnD_doTwo_152 (wd, g, pk w', 0, al, sp + 1, pd) wh b x = some ((), rD) ∧ RI al sp0 rA rD := by
    intro wh hwh q2 q3
    obtain ⟨wd', g', p1, p2, p3, p4⟩ := sim_put wd g hw hg al (sp + 1) pl w' (pk w') pd hr hb hp hx hwh
    dsimp only [fnA_doTwoOperands_153, fnD_doTwo_152]
    rw [if_neg q2, if_neg q3, d_r, p1, p2]
    exact ⟨_, _, rfl, rfl, RI_ok p3 p4 hw' (J_le (J_add (J_add hj 1) 1) (by decide))⟩
  have none' : ∀ r, (kA = 2 ∨ kA = 3) → fnA_doTwoOperands_153 r (nI n) b kA x = some ((), r) := by
    intro r hr
    dsimp only [fnA_doTwoOperands_153]
    rcases hr with rfl | rfl
    · rw [if_pos rfl]
      rfl
    · rw [if_neg (by decide), if_pos rfl]
      rfl
  rcases hkk with ⟨rfl, rfl | rfl | rfl | rfl | rfl | rfl⟩ | ⟨rfl, rfl⟩
  · rw [if_pos rfl, if_neg (show ¬ (1 : Int32) = 2 by decide), if_neg (show ¬ (1 : Int32) = 3 by decide), if_pos rfl]
    by_cases h0 : b = 0
    · rw [if_pos h0]
      exact put 1 (Or.inl h0) (by decide) (by decide)
    · rw [if_neg h0]
      by_cases hpl : pl = (-1 : Int32)
      · rw [if_pos hpl]
        have hb1 : b = 1 := hb.resolve_left h0
        subst hb1
        have hpd : pd = (-1 : Int32) - nI (n % 8) := by
          rcases hp with ⟨-, h⟩ | ⟨h, h3, -⟩
          · exact h
          · exact absurd (h ▸ hpl) (rng_ne h3)
        obtain ⟨g', p1, p2, p4⟩ := sim_putS wd g hw hg al (sp + 1) pl w' (pk w') pd hr hpd hx
        dsimp only [fnD_doTwo_152]
        rw [d_r, p1, p2]
        exact ⟨_, _, rfl, rfl, RI_ok hw p4 hw' (J_le (J_add (J_add hj 1) 1) (by decide))⟩
      · rw [if_neg hpl]
        exact put 1 (Or.inr (Or.inr hpl)) (by decide) (by decide)
  · rw [if_neg (show ¬ (2 : Int32) = 1 by decide), if_pos rfl, none' _ (Or.inl rfl)]
    exact ⟨_, _, rfl, rfl, RI_ok hw hg hw' (J_le (J_add hj 1) (by decide))⟩
  · rw [if_neg (show ¬ (3 : Int32) = 1 by decide), if_neg (show ¬ (3 : Int32) = 2 by decide), if_pos rfl, none' _ (Or.inr rfl)]
    exact ⟨_, _, rfl, rfl, RI_ok hw hg hw' (J_le (J_add hj 1) (by decide))⟩
  · rw [if_neg (show ¬ (4 : Int32) = 1 by decide), if_neg (show ¬ (4 : Int32) = 2 by decide), if_neg (show ¬ (4 : Int32) = 3 by decide), if_neg (show ¬ (4 : Int32) = 1 by decide)]
    exact put 0 (Or.inr (Or.inl rfl)) (by decide) (by decide)
  · rw [if_neg (show ¬ (5 : Int32) = 1 by decide), if_neg (show ¬ (5 : Int32) = 2 by decide), if_neg (show ¬ (5 : Int32) = 3 by decide), if_neg (show ¬ (5 : Int32) = 1 by decide)]
    exact put 0 (Or.inr (Or.inl rfl)) (by decide) (by decide)
  · rw [if_neg (show ¬ (6 : Int32) = 1 by decide), if_neg (show ¬ (6 : Int32) = 2 by decide), if_neg (show ¬ (6 : Int32) = 3 by decide), if_neg (show ¬ (6 : Int32) = 1 by decide)]
    exact put 0 (Or.inr (Or.inl rfl)) (by decide) (by decide)
  · rw [if_neg (show ¬ (14 : Int32) = 1 by decide), if_neg (show ¬ (7 : Int32) = 2 by decide), if_neg (show ¬ (7 : Int32) = 3 by decide), if_neg (show ¬ (7 : Int32) = 1 by decide)]
    exact put 0 (Or.inr (Or.inl rfl)) (by decide) (by decide)
theorem w_12 {n : Nat} (h : n < 65536) : nI n >>> ((12 : Int32) &&& 31) = nI (n / 4096) := pk_shrN (by omega) _ 12 (by decide)
theorem w_9 {n : Nat} (h : n < 65536) : nI n >>> ((9 : Int32) &&& 31) = nI (n / 512) := pk_shrN (by omega) _ 9 (by decide)
theorem w_8 {n : Nat} (h : n < 65536) : nI n >>> ((8 : Int32) &&& 31) = nI (n / 256) := pk_shrN (by omega) _ 8 (by decide)
theorem w_6 {n : Nat} (h : n < 65536) : nI n >>> ((6 : Int32) &&& 31) = nI (n / 64) := pk_shrN (by omega) _ 6 (by decide)
theorem w_3 {n : Nat} (h : n < 65536) : nI n >>> ((3 : Int32) &&& 31) = nI (n / 8) := pk_shrN (by omega) _ 3 (by decide)
theorem a_63 {n : Nat} (h : n < 65536) : nI n &&& (63 : Int32) = nI (n % 64) := pk_andN (by omega) 6 (by decide)
theorem e_st {er : Int32} (h : er = 0 ∨ er = 3 ∨ er = 4) : okst er := by rcases h with h | h | h <;> simp [okst, h]
theorem e_le {er : Int32} (h : er = 0 ∨ er = 3 ∨ er = 4) : (er ≤ 0 ↔ er = 0) := by rcases h with rfl | rfl | rfl <;> decide
theorem vb_ne {b x : Int32} (h : vb b x) : ¬ x = (-1 : Int32) := rng_ne (vb_rng h)
theorem sim_31 (wd rg : Nat → Int32) (hw : ∀ j, rng (wd j)) (hg : ∀ j, rng (rg j)) (al : Int64) (sp0 pl pd : Int32) (wk : sW) (hk : okW wk) {n : Nat} (hn : n < 65536) {b : Int32} (hb : b = 0 ∨ b = 1) {sub kA kD : Int32} (hc : (sub = 0 ∧ kA = nI (n / 4096) &&& (7 : Int32)) ∨ (sub = 1 ∧ kA = 14)) (hkk : (kA = kD ∧ (kA = 1 ∨ kA = 2 ∨ kA = 3 ∨ kA = 4 ∨ kA = 5 ∨ kA = 6)) ∨ (kA = 14 ∧ kD = 7)) :
    ∃ rA rD, fnA_doTwoOperands_31 (wd, rg, 0, al, sp0, pl, wk) (nI n) sub b = some ((), rA) ∧ fnD_doTwo_38 (wd, rg, pk wk, 0, al, sp0, pd) (nI n) b kD = some ((), rD) ∧ RI al sp0 rA rD := by
  dsimp only [fnA_doTwoOperands_31, fnD_doTwo_38]
  rw [w_6 hn, a_63 (n := n / 64) (by omega), a_63 hn, w_12 hn]
  obtain ⟨g, er, s, sp', pl', tk', pd', v1, f1, f2, f3, hg1, he, hi⟩ := sim_op wd rg hw hg al sp0 pl wk (pk wk) pd (dd := n / 64 % 64) (Nat.mod_lt _ (by decide)) hb
  rw [f1, Option.bind_some, f2, Option.bind_some, f3, Option.bind_some]
  dsimp only
  by_cases e0 : er = 0
  · subst e0
    obtain ⟨hs, rfl, -, j1⟩ := hi rfl
    rw [if_pos rfl, if_neg (vb_ne hs), if_pos (show (0 : Int32) ≤ 0 by decide), if_pos rfl]
    obtain ⟨g2, er2, d, sp2, pl2, tk2, pd2, v2, q1, q2, q3, hg2, he2, hi2⟩ := sim_op wd g hw hg1 al sp' pl' wk (pk wk) pd' (dd := n % 64) (Nat.mod_lt _ (by decide)) hb
    rw [q1, Option.bind_some, q2, Option.bind_some, q3, Option.bind_some]
    dsimp only
    by_cases e1 : er2 = 0
    · subst e1
      obtain ⟨hd, rfl, hp, j2⟩ := hi2 rfl
      rw [if_pos rfl, if_neg (vb_ne hd), if_pos (show (0 : Int32) ≤ 0 by decide), if_pos rfl]
      have hp' : PR pl2 pd2 (n % 8) b := by rw [show n % 8 = n % 64 % 8 by omega]; exact hp
      have hA : (if sub = 0 then fnA_doTwoOperands_87 (wd, g2, 0, al, sp2, pl2, wk) (nI n) b s d (nI (n / 4096) &&& (7 : Int32)) else fnA_doTwoOperands_87 (wd, g2, 0, al, sp2, pl2, wk) (nI n) b s d (14 : Int32)) = fnA_doTwoOperands_87 (wd, g2, 0, al, sp2, pl2, wk) (nI n) b s d kA := by
        rcases hc with ⟨rfl, rfl⟩ | ⟨rfl, rfl⟩
        · rw [if_pos rfl]
        · rw [if_neg (by decide)]
      have hD : (if b = 0 then fnD_doTwo_120 (wd, g2, pk wk, 0, al, sp2 + 1, pd2) b kD (32768 : Int32) d s kD else fnD_doTwo_120 (wd, g2, pk wk, 0, al, sp2 + 1, pd2) b kD (128 : Int32) d s kD) = fnD_doTwo_120 (wd, g2, pk wk, 0, al, sp2 + 1, pd2) b kD (hit b) d s kD := by
        unfold hit
        by_cases h0 : b = 0
        · rw [if_pos h0, if_pos h0]
        · rw [if_neg h0, if_neg h0]
      rw [hA, hD]
      exact sim_87 wd g2 hw hg2 al sp2 pl2 pd2 wk hk hb hs hd hp' (J_tr j1 j2) hkk
    · rw [if_neg e1, if_pos rfl, if_neg (fun q => e1 ((e_le he2).mp q))]
      exact ⟨_, _, rfl, rfl, RI_st hw hg2 hk (e_st he2) e1⟩
  · rw [if_neg e0, if_pos rfl, if_neg (fun q => e0 ((e_le he).mp q))]
    exact ⟨_, _, rfl, rfl, RI_st hw hg1 hk (e_st he) e0⟩
