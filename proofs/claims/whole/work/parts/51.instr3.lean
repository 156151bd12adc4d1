/-! instructions of one operand -/
theorem sim_76 (wd g : Nat → Int32) (hw : ∀ j, rng (wd j)) (hg : ∀ j, rng (g j)) (al : Int64) (sp pl pd : Int32) (w' : sW) (hk : okW w') {n m : Nat} {b x : Int32} (hb : b = 0 ∨ b = 1) (hx : vb b x) (hp : PR pl pd (n % 8) b) {sp0 : Int32} (hj : J 10 sp0 sp) :
    ∃ rA rD, fnA_doOneOperand_76 (wd, g, 0, al, sp, pl, w') (nI n) b (nI m) x = some ((), rA) ∧ fnD_doOne_126 (wd, g, pk w', 0, al, sp + 1, pd) (nI m) b x = some ((), rD) ∧ RI al sp0 rA rD := by
  have hr : n % 8 < 8 := Nat.mod_lt _ (by decide)
  dsimp only [fnA_doOneOperand_76, fnD_doOne_126]
  by_cases e : nI m = (47 : Int32)
  · rw [if_pos e, if_pos e]
    exact ⟨_, _, rfl, rfl, RI_ok hw hg hk (J_le (J_add hj 1) (by decide))⟩
  · obtain ⟨wd', g', p1, p2, p3, p4⟩ := sim_put wd g hw hg al (sp + 1) pl w' (pk w') pd hr hb hp hx (wh := 0) (Or.inr (Or.inl rfl))
    rw [if_neg e, if_neg e, d_r, p1, p2]
    exact ⟨_, _, rfl, rfl, RI_ok p3 p4 hk (J_le (J_add (J_add hj 1) 1) (by decide))⟩
theorem W_o3 (w : sW) (d : Int32) : fnW_ofOne w (nI 3) d = fnW_swapped w d := by
  dsimp only [fnW_ofOne]
  rw [if_neg (by decide), if_neg (by decide), if_neg (by decide), if_neg (by decide), if_neg (by decide), if_neg (by decide), if_neg (by decide), if_neg (by decide), ob_id]
theorem W_sw (n z v c bi hi d : Int32) : fnW_swapped (n, z, v, c, bi, hi) d = some (((d <<< ((8 : Int32) &&& 31)) ||| (d >>> ((8 : Int32) &&& 31))) &&& (65535 : Int32), (if (((d <<< ((8 : Int32) &&& 31)) ||| (d >>> ((8 : Int32) &&& 31))) &&& (65535 : Int32)) &&& (128 : Int32) = 0 then 0 else 1, if (((d <<< ((8 : Int32) &&& 31)) ||| (d >>> ((8 : Int32) &&& 31))) &&& (65535 : Int32)) &&& (255 : Int32) = 0 then 1 else 0, 0, 0, bi, hi)) := by
  dsimp only [fnW_swapped]
  generalize ((d <<< ((8 : Int32) &&& 31)) ||| (d >>> ((8 : Int32) &&& 31))) &&& (65535 : Int32) = y
  by_cases e1 : y &&& (128 : Int32) = 0
  · rw [if_pos e1, if_pos e1]
    dsimp only [fnW_swapped_27]
    rw [if_pos (by decide)]
    by_cases e2 : y &&& (255 : Int32) = 0
    · rw [if_pos e2, if_pos e2]
      rfl
    · rw [if_neg e2, if_neg e2]
      rfl
  · rw [if_neg e1, if_neg e1]
    dsimp only [fnW_swapped_27]
    rw [if_pos (by decide)]
    by_cases e2 : y &&& (255 : Int32) = 0
    · rw [if_pos e2, if_pos e2]
      rfl
    · rw [if_neg e2, if_neg e2]
      rfl
theorem n_sub {a b : Nat} (h : b ≤ a) : nI a - nI b = nI (a - b) := pk_sub h
/-- the work between reading and putting -/
theorem sim_46 (wd g : Nat → Int32) (hw : ∀ j, rng (wd j)) (hg : ∀ j, rng (g j)) (al : Int64) (sp pl pd : Int32) (wk : sW) (hk : okW wk) {n m : Nat} {b d : Int32} (hb : b = 0 ∨ b = 1) (hd : vb b d) (hp : PR pl pd (n % 8) b) {sp0 : Int32} (hj : J 10 sp0 sp) (hm : (40 ≤ m ∧ m ≤ 51) ∨ (m = 3 ∧ b = 0)) :
    ∃ rA rD, (fnW_takeWidth wk b).bind (fun r5 => if nI m < (48 : Int32) then ((fnW_ofOne r5.2 (nI m) d).bind (fun r8 => fnA_doOneOperand_76 (wd, g, 0, al, sp, pl, r8.2) (nI n) b (nI m) r8.1)) else ((fnW_ofShift r5.2 (nI m) d).bind (fun r10 => fnA_doOneOperand_76 (wd, g, 0, al, sp, pl, r10.2) (nI n) b (nI m) r10.1))) = some ((), rA) ∧ fnD_doOne_46 (wd, g, pk wk, 0, al, sp + 1, pd) (nI m) b d (hit b) = some ((), rD) ∧ RI al sp0 rA rD := by
  obtain ⟨fn, fz, fv, fc, bi0, hi0⟩ := wk
  have hk2 : okW (fn, fz, fv, fc, bit b, hit b) := hk
  rw [W_tw fn fz fv fc bi0 hi0 hb, Option.bind_some]
  dsimp only [fnD_doOne_46]
  rw [show pk (fn, fz, fv, fc, bi0, hi0) = pk (fn, fz, fv, fc, bit b, hit b) from rfl]
  rcases hm with ⟨h40, h51⟩ | ⟨rfl, rfl⟩
  · rw [if_neg (show ¬ nI m = (3 : Int32) from n_ne (b := 3) (by omega) (by omega) (by omega))]
    by_cases h48 : m < 48
    · obtain ⟨x, w', q1, q2, q3, q4, -⟩ := sim_one wd g (al, sp + 1, pd) hk2 (wdt_b hb) hd (k := m - 40) (by omega)
      rw [show 40 + (m - 40) = m by omega] at q1
      rw [if_pos (show nI m < (48 : Int32) from n_lt (b := 48) h48 (by omega)), if_neg (show ¬ (48 : Int32) ≤ nI m from n_nle (b := 48) h48 (by omega)), q1, Option.bind_some, show nI m - (40 : Int32) = nI (m - 40) from n_sub (b := 40) h40, q2, Option.bind_some]
      exact sim_76 wd g hw hg al sp pl pd w' q4 hb q3 hp hj
    · obtain ⟨x, w', q1, q2, q3, q4, -⟩ := sim_shift wd g (al, sp + 1, pd) hk2 (wdt_b hb) hd (k := m - 48) (by omega)
      rw [show 48 + (m - 48) = m by omega] at q1
      rw [if_neg (show ¬ nI m < (48 : Int32) from n_nlt (b := 48) (by omega) (by omega)), if_pos (show (48 : Int32) ≤ nI m from n_le (a := 48) (by omega) (by omega)), q1, Option.bind_some, show nI m - (48 : Int32) = nI (m - 48) from n_sub (b := 48) (by omega), q2, Option.bind_some]
      exact sim_76 wd g hw hg al sp pl pd w' q4 hb q3 hp hj
  · rw [if_pos (show nI 3 = (3 : Int32) from rfl), if_pos (by decide), W_o3, W_sw, Option.bind_some, q_swap hd]
    dsimp only
    have hy : rng ((d >>> ((8 : Int32) &&& 31)) ||| ((d &&& (255 : Int32)) <<< ((8 : Int32) &&& 31))) := by
      rw [← q_swap hd]
      exact rng_mask _
    generalize (d >>> ((8 : Int32) &&& 31)) ||| ((d &&& (255 : Int32)) <<< ((8 : Int32) &&& 31)) = y at hy ⊢
    rw [T_b wd g _ 0 (al, sp + 1, pd) _ 128 (bit 0) (Or.inl rfl) (Or.inl rfl), Option.bind_some]
    have e1 : pk (stw (y &&& (255 : Int32)) 128 0 0 (bit 0)) = pk (if y &&& (128 : Int32) = 0 then 0 else 1, if y &&& (255 : Int32) = 0 then 1 else 0, 0, 0, bit 0, hit 0) := by
      unfold stw
      rw [a_as, show (255 : Int32) &&& (128 : Int32) = 128 by decide]
      rfl
    rw [e1]
    exact sim_76 wd g hw hg al sp pl pd _ ⟨okb_if, okb_if', Or.inl rfl, Or.inl rfl⟩ (Or.inl rfl) hy hp hj
theorem sim_doOne (wd rg : Nat → Int32) (hw : ∀ j, rng (wd j)) (hg : ∀ j, rng (rg j)) (al : Int64) (sp pl pd : Int32) (wk : sW) (hk : okW wk) {n m : Nat} (hn : n < 65536) (hm : n % 32768 / 64 = m) {b : Int32} (hb : (b = 0 ∧ n < 32768) ∨ (b = 1 ∧ 32768 ≤ n)) (hmm : (40 ≤ m ∧ m ≤ 51) ∨ (m = 3 ∧ b = 0)) :
    ∃ rA rD, fnA_doOneOperand (wd, rg, 0, al, sp, pl, wk) (nI n) = some ((), rA) ∧ fnD_doOne (wd, rg, pk wk, 0, al, sp, pd) (nI n) (nI m) b = some ((), rD) ∧ RI al sp rA rD := by
  have hb2 : b = 0 ∨ b = 1 := hb.elim (fun h => Or.inl h.1) (fun h => Or.inr h.1)
  have hA : fnA_doOneOperand (wd, rg, 0, al, sp, pl, wk) (nI n) = fnA_doOneOperand_12 (wd, rg, 0, al, sp, pl, wk) (nI n) b := by
    dsimp only [fnA_doOneOperand]
    rcases hb with ⟨rfl, h⟩ | ⟨rfl, h⟩
    · rw [if_pos ((q_15 hn).mpr h)]
    · rw [if_neg (fun q => absurd ((q_15 hn).mp q) (by omega))]
  rw [hA]
  dsimp only [fnA_doOneOperand_12, fnD_doOne]
  rw [a_63 hn, q_mk hn, w_6 (n := n % 32768) (by omega), hm]
  obtain ⟨g, er, d, sp', pl', tk', pd', v1, f1, f2, f3, hg1, he, hi⟩ := sim_op wd rg hw hg al sp pl wk (pk wk) pd (dd := n % 64) (Nat.mod_lt _ (by decide)) hb2
  rw [f1, Option.bind_some, f2, Option.bind_some, f3, Option.bind_some]
  dsimp only
  by_cases e0 : er = 0
  · subst e0
    obtain ⟨hd, rfl, hp, j1⟩ := hi rfl
    rw [if_pos rfl, if_neg (vb_ne hd), if_pos (show (0 : Int32) ≤ 0 by decide), if_pos rfl]
    have hp' : PR pl' pd' (n % 8) b := by rw [show n % 8 = n % 64 % 8 by omega]; exact hp
    have hD : (if b = 0 then fnD_doOne_46 (wd, g, pk wk, 0, al, sp' + 1, pd') (nI m) b d (32768 : Int32) else fnD_doOne_46 (wd, g, pk wk, 0, al, sp' + 1, pd') (nI m) b d (128 : Int32)) = fnD_doOne_46 (wd, g, pk wk, 0, al, sp' + 1, pd') (nI m) b d (hit b) := by
      unfold hit
      by_cases h0 : b = 0
      · rw [if_pos h0, if_pos h0]
      · rw [if_neg h0, if_neg h0]
    rw [hD]
    exact sim_46 wd g hw hg1 al sp' pl' pd' wk hk hb2 hd hp' (J_le j1 (by decide)) hmm
  · rw [if_neg e0, if_pos rfl, if_neg (fun q => e0 ((e_le he).mp q))]
    exact ⟨_, _, rfl, rfl, RI_st hw hg1 hk (e_st he) e0⟩
