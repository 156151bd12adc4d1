/-! the work on one operand -/
theorem n_and {n : Nat} (h : n < 4294967296) : nI n &&& (65535 : Int32) = nI (n % 65536) := pk_andN h 16 (by decide)
theorem n_and8 {n : Nat} (h : n < 4294967296) : nI n &&& (255 : Int32) = nI (n % 256) := pk_andN h 8 (by decide)
theorem n_neg {n : Nat} (h : n < 65536) : (-(nI n)).toBitVec.toNat = (4294967296 - n) % 4294967296 := by
  rw [Int32.toBitVec_neg, BitVec.toNat_neg]
  rw [pk_tn (by omega)]
theorem f_inc {b bi hi d : Int32} (h : wdt b bi hi) (hd : vb b d) : (d + 1 = hi ↔ (d + 1) &&& bi = hi) ∧ (d = bi ↔ (d + 1) &&& bi = 0) := by
  obtain ⟨n, hn, rfl⟩ := hd
  rw [nI_1]
  rcases h with ⟨rfl, rfl, rfl⟩ | ⟨rfl, rfl, rfl⟩
  · rw [if_pos rfl] at hn
    rw [n_and (by omega)]
    refine ⟨(nI_eq (a := n + 1) (b := 32768) (by omega) (by omega)).trans (Iff.trans ?_ (nI_eq (a := (n + 1) % 65536) (b := 32768) (by omega) (by omega)).symm), (nI_eq (a := n) (b := 65535) (by omega) (by omega)).trans (Iff.trans ?_ (nI_eq (a := (n + 1) % 65536) (b := 0) (by omega) (by omega)).symm)⟩ <;> omega
  · rw [if_neg (by decide)] at hn
    rw [n_and8 (by omega)]
    refine ⟨(nI_eq (a := n + 1) (b := 128) (by omega) (by omega)).trans (Iff.trans ?_ (nI_eq (a := (n + 1) % 256) (b := 128) (by omega) (by omega)).symm), (nI_eq (a := n) (b := 255) (by omega) (by omega)).trans (Iff.trans ?_ (nI_eq (a := (n + 1) % 256) (b := 0) (by omega) (by omega)).symm)⟩ <;> omega
theorem f_neg {b bi hi d : Int32} (h : wdt b bi hi) (hd : vb b d) : (d = hi ↔ (-d) &&& bi = hi) ∧ (d = 0 ↔ (-d) &&& bi = 0) := by
  obtain ⟨n, hn, rfl⟩ := hd
  rcases h with ⟨rfl, rfl, rfl⟩ | ⟨rfl, rfl, rfl⟩
  · rw [if_pos rfl] at hn
    rw [pk_and (-(nI n)) (m := 65535) 16 (by decide), n_neg (by omega)]
    refine ⟨(nI_eq (a := n) (b := 32768) (by omega) (by omega)).trans (Iff.trans ?_ (nI_eq (a := (4294967296 - n) % 4294967296 % 2 ^ 16) (b := 32768) (by omega) (by omega)).symm), (nI_eq (a := n) (b := 0) (by omega) (by omega)).trans (Iff.trans ?_ (nI_eq (a := (4294967296 - n) % 4294967296 % 2 ^ 16) (b := 0) (by omega) (by omega)).symm)⟩ <;> omega
  · rw [if_neg (by decide)] at hn
    rw [pk_and (-(nI n)) (m := 255) 8 (by decide), n_neg (by omega)]
    refine ⟨(nI_eq (a := n) (b := 128) (by omega) (by omega)).trans (Iff.trans ?_ (nI_eq (a := (4294967296 - n) % 4294967296 % 2 ^ 8) (b := 128) (by omega) (by omega)).symm), (nI_eq (a := n) (b := 0) (by omega) (by omega)).trans (Iff.trans ?_ (nI_eq (a := (4294967296 - n) % 4294967296 % 2 ^ 8) (b := 0) (by omega) (by omega)).symm)⟩ <;> omega
theorem D_on (wd g : Nat → Int32) (tl : Int32 × Int64 × Int32 × Int32) {n z v c b bi hi : Int32} (hk : okW (n, z, v, c, bi, hi)) (hd : wdt b bi hi) (k d : Int32) : fnD_one (wd, g, pk (n, z, v, c, bi, hi), tl) k d hi = fnD_one_33 (wd, g, pk (n, z, v, c, bi, hi), tl) k d hi bi c c := by
  dsimp only [fnD_one]
  rw [pk_c hk, wd_2 hd, if_01 hk.2.2.2 (fun q => fnD_one_21 (wd, g, pk (n, z, v, c, bi, hi), tl) k d hi bi q)]
  dsimp only [fnD_one_21]
  exact if_01 hk.2.2.2 (fun q => fnD_one_33 (wd, g, pk (n, z, v, c, bi, hi), tl) k d hi bi c q)
/-- both ends with the same value, overflow and carry -/
theorem fin_1 (wd g : Nat → Int32) (fl st : Int32) (tl : Int64 × Int32 × Int32) {n z v c b bi hi : Int32} (hd : wdt b bi hi) (x : Int32) {ov ca : Int32} (h1 : okb ov) (h2 : okb ca) {fA : Option (Int32 × sW)} {fD : Option (Int32 × sD)} (eA : fA = fnW_settled (n, z, v, c, bi, hi) x ov ca) (eD : fD = fnD_one_275 (wd, g, fl, st, tl) hi (x &&& bi) ov ca) :
    ∃ (x : Int32) (w' : sW), fA = some (x, w') ∧ fD = some (x, (wd, g, pk w', st, tl)) ∧ vb b x ∧ okW w' ∧ w'.2.2.2.2 = (bi, hi) := by
  rw [S_a n z v c bi hi x h1 h2] at eA
  dsimp only [fnD_one_275] at eD
  rw [T_b wd g fl st tl _ hi bi h1 h2] at eD
  exact ⟨_, _, eA, eD, wd_v hd _, stw_ok h1 h2, rfl⟩
theorem ob_id {α β : Type} (r : Option (α × β)) : r.bind (fun q => some (q.1, q.2)) = r := by
  cases r <;> rfl
theorem e_230 (u : sD) (k d hi c y ov : Int32) (h4 : ¬ k = 4) (h5 : ¬ k = 5) (h6 : ¬ k = 6) : fnD_one_230 u k d hi c y ov = fnD_one_275 u hi y ov 0 := by
  dsimp only [fnD_one_230]
  rw [if_neg h4]
  dsimp only [fnD_one_240]
  rw [if_neg h5]
  dsimp only [fnD_one_255]
  rw [if_neg h6]
  rfl
theorem e_225 (u : sD) (k d hi y ov : Int32) {c : Int32} (hc : okb c) (h4 : ¬ k = 4) (h5 : ¬ k = 5) (h6 : ¬ k = 6) : fnD_one_225 u k d hi c y ov = fnD_one_275 u hi y ov c := by
  dsimp only [fnD_one_225]
  rw [e_230 u k d hi c y ov h4 h5 h6]
  exact if_01 hc (fun q => fnD_one_275 u hi y ov q)
theorem sim_one (wd g : Nat → Int32) (tl : Int64 × Int32 × Int32) {n z v c b bi hi : Int32} (hk : okW (n, z, v, c, bi, hi)) (hd : wdt b bi hi) {d : Int32} (hdd : vb b d) {k : Nat} (hk8 : k < 8) :
    ∃ (x : Int32) (w' : sW), fnW_ofOne (n, z, v, c, bi, hi) (nI (40 + k)) d = some (x, w') ∧ fnD_one (wd, g, pk (n, z, v, c, bi, hi), 0, tl) (nI k) d hi = some (x, (wd, g, pk w', 0, tl)) ∧ vb b x ∧ okW w' ∧ w'.2.2.2.2 = (bi, hi) := by
  rw [D_on wd g (0, tl) hk hd]
  have hc : okb c := hk.2.2.2
  have o0 : okb 0 := Or.inl rfl
  have o1 : okb 1 := Or.inr rfl
  obtain ⟨i1, i2⟩ := f_inc hd hdd
  obtain ⟨m1, m2⟩ := f_neg hd hdd
  rcases (show k = 0 ∨ k = 1 ∨ k = 2 ∨ k = 3 ∨ k = 4 ∨ k = 5 ∨ k = 6 ∨ k = 7 by omega) with rfl | rfl | rfl | rfl | rfl | rfl | rfl | rfl
  · dsimp only [fnW_ofOne, fnD_one_33]
    rw [if_pos (show nI (40 + 0) = (40 : Int32) from rfl)]
    rw [if_pos (show nI 0 = (0 : Int32) from rfl)]
    dsimp only [fnD_one_112]
    rw [if_neg (show ¬ nI 0 = (2 : Int32) by decide), if_neg (show ¬ nI 0 = (4 : Int32) by decide), if_neg (show ¬ nI 0 = (3 : Int32) by decide), if_neg (show ¬ nI 0 = (5 : Int32) by decide), if_neg (show ¬ nI 0 = (6 : Int32) by decide)]
    dsimp only [fnD_one_207, fnD_one_208]
    rw [if_neg (by decide), if_neg (by decide), if_neg (by decide), e_230 _ _ _ _ _ _ _ (by decide) (by decide) (by decide), ob_id]
    exact fin_1 wd g _ 0 tl hd 0 o0 o0 rfl rfl
  · dsimp only [fnW_ofOne, fnD_one_33]
    rw [if_neg (show ¬ nI (40 + 1) = (40 : Int32) by decide), if_pos (show nI (40 + 1) = (41 : Int32) from rfl)]
    rw [if_neg (show ¬ nI 1 = (0 : Int32) by decide), if_pos (show nI 1 = (1 : Int32) from rfl)]
    dsimp only [fnD_one_112]
    rw [if_neg (show ¬ nI 1 = (2 : Int32) by decide), if_neg (show ¬ nI 1 = (4 : Int32) by decide), if_neg (show ¬ nI 1 = (3 : Int32) by decide), if_neg (show ¬ nI 1 = (5 : Int32) by decide), if_neg (show ¬ nI 1 = (6 : Int32) by decide)]
    dsimp only [fnD_one_207, fnD_one_208]
    rw [if_pos (show nI 1 = (1 : Int32) from rfl), ob_id]
    exact fin_1 wd g _ 0 tl hd (d ^^^ (-1 : Int32)) o0 o1 rfl rfl
  · dsimp only [fnW_ofOne, fnD_one_33]
    rw [if_neg (show ¬ nI (40 + 2) = (40 : Int32) by decide), if_neg (show ¬ nI (40 + 2) = (41 : Int32) by decide), if_pos (show nI (40 + 2) = (42 : Int32) from rfl)]
    rw [if_neg (show ¬ nI 2 = (0 : Int32) by decide), if_neg (show ¬ nI 2 = (1 : Int32) by decide), if_pos (show nI 2 = (2 : Int32) from rfl)]
    dsimp only [fnD_one_112]
    rw [if_pos (show nI 2 = (2 : Int32) from rfl)]
    dsimp only [fnD_one_131]
    by_cases e : d + 1 = hi
    · rw [if_pos e, if_pos (i1.mp e)]
      dsimp only [fnD_one_208, fnW_ofOne_85]
      rw [if_neg (by decide), if_pos (show nI 2 = (2 : Int32) from rfl), e_225 _ _ _ _ _ _ hc (by decide) (by decide) (by decide), ob_id]
      exact fin_1 wd g _ 0 tl hd (d + 1) o1 hc rfl rfl
    · rw [if_neg e, if_neg (fun q => e (i1.mpr q))]
      dsimp only [fnD_one_208, fnW_ofOne_85]
      rw [if_neg (by decide), if_pos (show nI 2 = (2 : Int32) from rfl), e_225 _ _ _ _ _ _ hc (by decide) (by decide) (by decide), ob_id]
      exact fin_1 wd g _ 0 tl hd (d + 1) o0 hc rfl rfl
  · dsimp only [fnW_ofOne, fnD_one_33]
    rw [if_neg (show ¬ nI (40 + 3) = (40 : Int32) by decide), if_neg (show ¬ nI (40 + 3) = (41 : Int32) by decide), if_neg (show ¬ nI (40 + 3) = (42 : Int32) by decide), if_pos (show nI (40 + 3) = (43 : Int32) from rfl)]
    rw [if_neg (show ¬ nI 3 = (0 : Int32) by decide), if_neg (show ¬ nI 3 = (1 : Int32) by decide), if_neg (show ¬ nI 3 = (2 : Int32) by decide), if_pos (show nI 3 = (3 : Int32) from rfl)]
    dsimp only [fnD_one_112]
    rw [if_neg (show ¬ nI 3 = (2 : Int32) by decide), if_neg (show ¬ nI 3 = (4 : Int32) by decide), if_pos (show nI 3 = (3 : Int32) from rfl)]
    by_cases e : d = hi
    · rw [if_pos e, if_pos e]
      dsimp only [fnD_one_208, fnW_ofOne_110]
      rw [if_neg (by decide), if_neg (by decide), if_pos (show nI 3 = (3 : Int32) from rfl), e_225 _ _ _ _ _ _ hc (by decide) (by decide) (by decide), ob_id]
      exact fin_1 wd g _ 0 tl hd (d - 1) o1 hc rfl rfl
    · rw [if_neg e, if_neg e]
      dsimp only [fnD_one_208, fnW_ofOne_110]
      rw [if_neg (by decide), if_neg (by decide), if_pos (show nI 3 = (3 : Int32) from rfl), e_225 _ _ _ _ _ _ hc (by decide) (by decide) (by decide), ob_id]
      exact fin_1 wd g _ 0 tl hd (d - 1) o0 hc rfl rfl
  · dsimp only [fnW_ofOne, fnD_one_33]
    rw [if_neg (show ¬ nI (40 + 4) = (40 : Int32) by decide), if_neg (show ¬ nI (40 + 4) = (41 : Int32) by decide), if_neg (show ¬ nI (40 + 4) = (42 : Int32) by decide), if_neg (show ¬ nI (40 + 4) = (43 : Int32) by decide), if_pos (show nI (40 + 4) = (44 : Int32) from rfl)]
    rw [if_neg (show ¬ nI 4 = (0 : Int32) by decide), if_neg (show ¬ nI 4 = (1 : Int32) by decide), if_neg (show ¬ nI 4 = (2 : Int32) by decide), if_neg (show ¬ nI 4 = (3 : Int32) by decide), if_pos (show nI 4 = (4 : Int32) from rfl)]
    dsimp only [fnD_one_112]
    rw [if_neg (show ¬ nI 4 = (2 : Int32) by decide), if_pos (show nI 4 = (4 : Int32) from rfl)]
    dsimp only [fnD_one_131]
    have key : ∀ ov, okb ov → ∃ (x : Int32) (w' : sW), fnW_ofOne_134 (n, z, v, c, bi, hi) d ov (-d) = some (x, w') ∧ fnD_one_208 (wd, g, pk (n, z, v, c, bi, hi), 0, tl) (nI 4) d hi c ((-d) &&& bi) ov = some (x, (wd, g, pk w', 0, tl)) ∧ vb b x ∧ okW w' ∧ w'.2.2.2.2 = (bi, hi) := by
      intro ov ho
      dsimp only [fnD_one_208, fnW_ofOne_134]
      rw [if_neg (show ¬ nI 4 = (1 : Int32) by decide), if_neg (show ¬ nI 4 = (2 : Int32) by decide), if_neg (show ¬ nI 4 = (3 : Int32) by decide)]
      dsimp only [fnD_one_230]
      rw [if_pos (show nI 4 = (4 : Int32) from rfl)]
      by_cases e : d = 0
      · rw [if_pos e, if_pos (m2.mp e)]
        dsimp only [fnD_one_240]
        rw [if_neg (show ¬ nI 4 = (5 : Int32) by decide)]
        dsimp only [fnD_one_255]
        rw [if_neg (show ¬ nI 4 = (6 : Int32) by decide)]
        dsimp only [fnW_ofOne_143]
        rw [ob_id]
        exact fin_1 wd g _ 0 tl hd (-d) ho o0 rfl rfl
      · rw [if_neg e, if_neg (fun q => e (m2.mpr q))]
        dsimp only [fnW_ofOne_143]
        rw [ob_id]
        exact fin_1 wd g _ 0 tl hd (-d) ho o1 rfl rfl
    by_cases e : d = hi
    · rw [if_pos e, if_pos (m1.mp e)]
      exact key 1 o1
    · rw [if_neg e, if_neg (fun q => e (m1.mpr q))]
      exact key 0 o0
  · dsimp only [fnW_ofOne, fnD_one_33]
    rw [if_neg (show ¬ nI (40 + 5) = (40 : Int32) by decide), if_neg (show ¬ nI (40 + 5) = (41 : Int32) by decide), if_neg (show ¬ nI (40 + 5) = (42 : Int32) by decide), if_neg (show ¬ nI (40 + 5) = (43 : Int32) by decide), if_neg (show ¬ nI (40 + 5) = (44 : Int32) by decide), if_pos (show nI (40 + 5) = (45 : Int32) from rfl)]
    rw [if_neg (show ¬ nI 5 = (0 : Int32) by decide), if_neg (show ¬ nI 5 = (1 : Int32) by decide), if_neg (show ¬ nI 5 = (2 : Int32) by decide), if_neg (show ¬ nI 5 = (3 : Int32) by decide), if_neg (show ¬ nI 5 = (4 : Int32) by decide), if_pos (show nI 5 = (5 : Int32) from rfl)]
    dsimp only [fnD_one_112]
    rw [if_neg (show ¬ nI 5 = (2 : Int32) by decide), if_neg (show ¬ nI 5 = (4 : Int32) by decide), if_neg (show ¬ nI 5 = (3 : Int32) by decide), if_pos (show nI 5 = (5 : Int32) from rfl)]
    rcases hc with rfl | rfl
    · rw [if_pos rfl, if_pos rfl, Int32.add_zero]
      dsimp only [fnD_one_183, fnD_one_208]
      rw [if_neg (by decide), if_neg (by decide), if_neg (by decide)]
      dsimp only [fnD_one_230]
      rw [if_neg (by decide)]
      dsimp only [fnD_one_240]
      rw [if_pos (show nI 5 = (5 : Int32) from rfl), if_pos rfl]
      dsimp only [fnD_one_255]
      rw [if_neg (by decide)]
      dsimp only [fnW_ofOne_199]
      rw [ob_id]
      exact fin_1 wd g _ 0 tl hd d o0 o0 rfl rfl
    · rw [if_neg (show ¬ (1 : Int32) = 0 by decide), if_neg (show ¬ (1 : Int32) = 0 by decide)]
      have key : ∀ ov, okb ov → ∃ (x : Int32) (w' : sW), fnW_ofOne_173 (n, z, v, 1, bi, hi) d ov (d + 1) = some (x, w') ∧ fnD_one_208 (wd, g, pk (n, z, v, 1, bi, hi), 0, tl) (nI 5) d hi 1 ((d + 1) &&& bi) ov = some (x, (wd, g, pk w', 0, tl)) ∧ vb b x ∧ okW w' ∧ w'.2.2.2.2 = (bi, hi) := by
        intro ov ho
        dsimp only [fnD_one_208, fnW_ofOne_173]
        rw [if_neg (show ¬ nI 5 = (1 : Int32) by decide), if_neg (show ¬ nI 5 = (2 : Int32) by decide), if_neg (show ¬ nI 5 = (3 : Int32) by decide)]
        dsimp only [fnD_one_230]
        rw [if_neg (show ¬ nI 5 = (4 : Int32) by decide)]
        dsimp only [fnD_one_240]
        rw [if_pos (show nI 5 = (5 : Int32) from rfl), if_neg (show ¬ (1 : Int32) = 0 by decide)]
        by_cases e : d = bi
        · rw [if_pos e, if_pos (i2.mp e)]
          dsimp only [fnW_ofOne_186, fnW_ofOne_199]
          rw [ob_id]
          exact fin_1 wd g _ 0 tl hd (d + 1) ho o1 rfl rfl
        · rw [if_neg e, if_neg (fun q => e (i2.mpr q))]
          dsimp only [fnD_one_255]
          rw [if_neg (show ¬ nI 5 = (6 : Int32) by decide)]
          dsimp only [fnW_ofOne_186, fnW_ofOne_199]
          rw [ob_id]
          exact fin_1 wd g _ 0 tl hd (d + 1) ho o0 rfl rfl
      by_cases e : d + 1 = hi
      · rw [if_pos e, if_pos (i1.mp e)]
        exact key 1 o1
      · rw [if_neg e, if_neg (fun q => e (i1.mpr q))]
        exact key 0 o0
  · dsimp only [fnW_ofOne, fnD_one_33]
    rw [if_neg (show ¬ nI (40 + 6) = (40 : Int32) by decide), if_neg (show ¬ nI (40 + 6) = (41 : Int32) by decide), if_neg (show ¬ nI (40 + 6) = (42 : Int32) by decide), if_neg (show ¬ nI (40 + 6) = (43 : Int32) by decide), if_neg (show ¬ nI (40 + 6) = (44 : Int32) by decide), if_neg (show ¬ nI (40 + 6) = (45 : Int32) by decide), if_pos (show nI (40 + 6) = (46 : Int32) from rfl)]
    rw [if_neg (show ¬ nI 6 = (0 : Int32) by decide), if_neg (show ¬ nI 6 = (1 : Int32) by decide), if_neg (show ¬ nI 6 = (2 : Int32) by decide), if_neg (show ¬ nI 6 = (3 : Int32) by decide), if_neg (show ¬ nI 6 = (4 : Int32) by decide), if_neg (show ¬ nI 6 = (5 : Int32) by decide), if_pos (show nI 6 = (6 : Int32) from rfl)]
    dsimp only [fnD_one_112]
    rw [if_neg (show ¬ nI 6 = (2 : Int32) by decide), if_neg (show ¬ nI 6 = (4 : Int32) by decide), if_neg (show ¬ nI 6 = (3 : Int32) by decide), if_neg (show ¬ nI 6 = (5 : Int32) by decide), if_pos (show nI 6 = (6 : Int32) from rfl)]
    rcases hc with rfl | rfl
    · rw [if_pos rfl, if_pos rfl, Int32.sub_zero]
      dsimp only [fnD_one_207, fnD_one_208]
      rw [if_neg (by decide), if_neg (by decide), if_neg (by decide)]
      dsimp only [fnD_one_230]
      rw [if_neg (by decide)]
      dsimp only [fnD_one_240]
      rw [if_neg (by decide)]
      dsimp only [fnD_one_255]
      rw [if_pos (show nI 6 = (6 : Int32) from rfl), if_pos rfl]
      dsimp only [fnW_ofOne_246]
      rw [ob_id]
      exact fin_1 wd g _ 0 tl hd d o0 o0 rfl rfl
    · rw [if_neg (show ¬ (1 : Int32) = 0 by decide), if_neg (show ¬ (1 : Int32) = 0 by decide)]
      have key : ∀ ov, okb ov → ∃ (x : Int32) (w' : sW), fnW_ofOne_224 (n, z, v, 1, bi, hi) d ov (d - 1) = some (x, w') ∧ fnD_one_208 (wd, g, pk (n, z, v, 1, bi, hi), 0, tl) (nI 6) d hi 1 ((d - 1) &&& bi) ov = some (x, (wd, g, pk w', 0, tl)) ∧ vb b x ∧ okW w' ∧ w'.2.2.2.2 = (bi, hi) := by
        intro ov ho
        dsimp only [fnD_one_208, fnW_ofOne_224]
        rw [if_neg (show ¬ nI 6 = (1 : Int32) by decide), if_neg (show ¬ nI 6 = (2 : Int32) by decide), if_neg (show ¬ nI 6 = (3 : Int32) by decide)]
        dsimp only [fnD_one_230]
        rw [if_neg (show ¬ nI 6 = (4 : Int32) by decide)]
        dsimp only [fnD_one_240]
        rw [if_neg (show ¬ nI 6 = (5 : Int32) by decide)]
        dsimp only [fnD_one_255]
        rw [if_pos (show nI 6 = (6 : Int32) from rfl), if_neg (show ¬ (1 : Int32) = 0 by decide)]
        by_cases e : d = 0
        · rw [if_pos e, if_pos e]
          dsimp only [fnW_ofOne_233, fnW_ofOne_246]
          rw [ob_id]
          exact fin_1 wd g _ 0 tl hd (d - 1) ho o1 rfl rfl
        · rw [if_neg e, if_neg e]
          dsimp only [fnW_ofOne_233, fnW_ofOne_246]
          rw [ob_id]
          exact fin_1 wd g _ 0 tl hd (d - 1) ho o0 rfl rfl
      by_cases e : d = hi
      · rw [if_pos e, if_pos e]
        exact key 1 o1
      · rw [if_neg e, if_neg e]
        exact key 0 o0
  · dsimp only [fnW_ofOne, fnD_one_33]
    rw [if_neg (show ¬ nI (40 + 7) = (40 : Int32) by decide), if_neg (show ¬ nI (40 + 7) = (41 : Int32) by decide), if_neg (show ¬ nI (40 + 7) = (42 : Int32) by decide), if_neg (show ¬ nI (40 + 7) = (43 : Int32) by decide), if_neg (show ¬ nI (40 + 7) = (44 : Int32) by decide), if_neg (show ¬ nI (40 + 7) = (45 : Int32) by decide), if_neg (show ¬ nI (40 + 7) = (46 : Int32) by decide), if_pos (show nI (40 + 7) = (47 : Int32) from rfl)]
    rw [if_neg (show ¬ nI 7 = (0 : Int32) by decide), if_neg (show ¬ nI 7 = (1 : Int32) by decide), if_neg (show ¬ nI 7 = (2 : Int32) by decide), if_neg (show ¬ nI 7 = (3 : Int32) by decide), if_neg (show ¬ nI 7 = (4 : Int32) by decide), if_neg (show ¬ nI 7 = (5 : Int32) by decide), if_neg (show ¬ nI 7 = (6 : Int32) by decide)]
    dsimp only [fnD_one_112]
    rw [if_neg (show ¬ nI 7 = (2 : Int32) by decide), if_neg (show ¬ nI 7 = (4 : Int32) by decide), if_neg (show ¬ nI 7 = (3 : Int32) by decide), if_neg (show ¬ nI 7 = (5 : Int32) by decide), if_neg (show ¬ nI 7 = (6 : Int32) by decide)]
    dsimp only [fnD_one_207, fnD_one_208]
    rw [if_neg (by decide), if_neg (by decide), if_neg (by decide), e_230 _ _ _ _ _ _ _ (by decide) (by decide) (by decide), ob_id]
    exact fin_1 wd g _ 0 tl hd d o0 o0 rfl rfl
