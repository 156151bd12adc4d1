/-! shifts, swapped bytes, conditions and flags (the first rows are of the kit's BITS) -/
theorem b_big {x : Int32} {i : Nat} (h : 32 ≤ i) : bt x i = false := BitVec.getLsbD_of_ge _ _ h
theorem b_255 (i : Nat) : bt 255 i = decide (i < 8) := by
  rcases Nat.lt_or_ge i 32 with h | h
  · exact (by decide +kernel : ∀ i, i < 32 → bt 255 i = decide (i < 8)) i h
  · rw [b_big h, decide_eq_false (by omega)]
theorem b_65535 (i : Nat) : bt 65535 i = decide (i < 16) := by
  rcases Nat.lt_or_ge i 32 with h | h
  · exact (by decide +kernel : ∀ i, i < 32 → bt 65535 i = decide (i < 16)) i h
  · rw [b_big h, decide_eq_false (by omega)]
theorem b_m1 : ∀ i, i < 32 → bt (-1) i = true := by decide +kernel
theorem b_0 (i : Nat) : bt 0 i = false := BitVec.getLsbD_zero
theorem s_l : ∀ n, n < 32 → ((nI n &&& 31).toBitVec.smod 32).toNat = n := by decide +kernel
theorem s_u : ∀ n, n < 32 → (((nI n).toUInt32 &&& Int32.toUInt32 31).toBitVec % 32).toNat = n := by decide +kernel
theorem b_shl (n : Nat) (hn : n < 32) (x : Int32) {i : Nat} (hi : i < 32) : bt (x <<< (nI n &&& 31)) i = (decide (n ≤ i) && bt x (i - n)) := by
  unfold bt
  rw [Int32.toBitVec_shiftLeft]
  show (x.toBitVec <<< ((nI n &&& 31).toBitVec.smod 32).toNat).getLsbD i = _
  rw [s_l n hn, BitVec.getLsbD_shiftLeft]
  rcases Nat.lt_or_ge i n with h | h
  · simp [h, Nat.not_le.mpr h]
  · simp [hi, h, Nat.not_lt.mpr h]
theorem b_ushr (n : Nat) (hn : n < 32) (x : Int32) (i : Nat) : bt ((x.toUInt32 >>> ((nI n).toUInt32 &&& Int32.toUInt32 31)).toInt32) i = bt x (n + i) := by
  show (x.toUInt32 >>> ((nI n).toUInt32 &&& Int32.toUInt32 31)).toBitVec.getLsbD i = x.toUInt32.toBitVec.getLsbD (n + i)
  rw [UInt32.toBitVec_shiftRight]
  show (x.toUInt32.toBitVec >>> (((nI n).toUInt32 &&& Int32.toUInt32 31).toBitVec % 32).toNat).getLsbD i = _
  rw [s_u n hn, BitVec.getLsbD_ushiftRight]
theorem b_sshr (n : Nat) (hn : n < 32) (x : Int32) {i : Nat} (hi : i < 32) : bt (x >>> (nI n &&& 31)) i = if n + i < 32 then bt x (n + i) else bt x 31 := by
  unfold bt
  rw [Int32.toBitVec_shiftRight]
  show (x.toBitVec.sshiftRight ((nI n &&& 31).toBitVec.smod 32).toNat).getLsbD i = _
  rw [s_l n hn, BitVec.getLsbD_sshiftRight, BitVec.msb_eq_getLsbD_last]
  simp [hi]
theorem b_shl8 (x : Int32) {i : Nat} (hi : i < 32) : bt (x <<< ((8 : Int32) &&& 31)) i = (decide (8 ≤ i) && bt x (i - 8)) := b_shl 8 (by omega) x hi
theorem b_shl16 (x : Int32) {i : Nat} (hi : i < 32) : bt (x <<< ((16 : Int32) &&& 31)) i = (decide (16 ≤ i) && bt x (i - 16)) := b_shl 16 (by omega) x hi
theorem b_shl24 (x : Int32) {i : Nat} (hi : i < 32) : bt (x <<< ((24 : Int32) &&& 31)) i = (decide (24 ≤ i) && bt x (i - 24)) := b_shl 24 (by omega) x hi
theorem b_sshr8 (x : Int32) {i : Nat} (hi : i < 32) : bt (x >>> ((8 : Int32) &&& 31)) i = if 8 + i < 32 then bt x (8 + i) else bt x 31 := b_sshr 8 (by omega) x hi
theorem o_0 (x : Int32) : x ||| (0 : Int32) = x := b_ext (fun i _ => by rw [b_or, b_0, Bool.or_false])
theorem bt_128 : ∀ i, i < 32 → bt 128 i = decide (i = 7) := by decide +kernel
theorem bt_32768 : ∀ i, i < 32 → bt 32768 i = decide (i = 15) := by decide +kernel
theorem one_bit {b bi hi : Int32} (h : wdt b bi hi) (x : Int32) (hx : ¬ x &&& hi = 0) : x &&& hi = hi := by
  rcases h with ⟨-, -, rfl⟩ | ⟨-, -, rfl⟩
  · cases hb : bt x 15
    · refine absurd (b_ext (fun i hi => ?_)) hx
      rw [b_and, bt_32768 i hi, b_0]
      by_cases e : i = 15
      · subst e; rw [hb]; rfl
      · simp [e]
    · refine b_ext (fun i hi => ?_)
      rw [b_and, bt_32768 i hi]
      by_cases e : i = 15
      · subst e; rw [hb]; rfl
      · simp [e]
  · cases hb : bt x 7
    · refine absurd (b_ext (fun i hi => ?_)) hx
      rw [b_and, bt_128 i hi, b_0]
      by_cases e : i = 7
      · subst e; rw [hb]; rfl
      · simp [e]
    · refine b_ext (fun i hi => ?_)
      rw [b_and, bt_128 i hi]
      by_cases e : i = 7
      · subst e; rw [hb]; rfl
      · simp [e]
theorem vb_sr {b d : Int32} (hd : vb b d) : vb b (d >>> ((1 : Int32) &&& 31)) := by
  obtain ⟨n, hn, rfl⟩ := hd
  by_cases hb : b = 0
  · rw [if_pos hb] at hn
    exact ⟨n / 2, by rw [if_pos hb]; omega, pk_shrN (by omega) ((1 : Int32) &&& 31) 1 (by decide)⟩
  · rw [if_neg hb] at hn
    exact ⟨n / 2, by rw [if_neg hb]; omega, pk_shrN (by omega) ((1 : Int32) &&& 31) 1 (by decide)⟩
theorem Sh (n z v c bi hi x ca : Int32) : fnW_shifted (n, z, v, c, bi, hi) x ca = fnW_settled (n, z, v, c, bi, hi) x (if (if x &&& hi = 0 then (0 : Int32) else 1) = ca then 0 else 1) ca := by
  dsimp only [fnW_shifted]
  by_cases e : x &&& hi = 0
  · rw [if_pos e, if_pos e]
    dsimp only [fnW_shifted_14]
    by_cases e2 : (0 : Int32) = ca
    · rw [if_pos e2, if_pos e2]
      dsimp only [fnW_shifted_27]
      rw [ob_id]
    · rw [if_neg e2, if_neg e2]
      dsimp only [fnW_shifted_27]
      rw [ob_id]
  · rw [if_neg e, if_neg e]
    dsimp only [fnW_shifted_14]
    by_cases e2 : (1 : Int32) = ca
    · rw [if_pos e2, if_pos e2]
      dsimp only [fnW_shifted_27]
      rw [ob_id]
    · rw [if_neg e2, if_neg e2]
      dsimp only [fnW_shifted_27]
      rw [ob_id]
theorem M93 (u : sD) (d hi dn y : Int32) : fnD_moved_93 u d hi dn y = (fnD_tell u y hi (if (if y &&& hi = 0 then (0 : Int32) else 1) = (if d &&& (if dn = 0 then hi else 1) = 0 then (0 : Int32) else 1) then 0 else 1) (if d &&& (if dn = 0 then hi else 1) = 0 then (0 : Int32) else 1)).bind (fun r => some (y, r.2)) := by
  have h104 : ∀ q : Int32, fnD_moved_104 u hi y q d = (fnD_tell u y hi (if (if y &&& hi = 0 then (0 : Int32) else 1) = (if d &&& q = 0 then (0 : Int32) else 1) then 0 else 1) (if d &&& q = 0 then (0 : Int32) else 1)).bind (fun r => some (y, r.2)) := by
    intro q
    have h113 : ∀ o : Int32, fnD_moved_113 u hi y o = (fnD_tell u y hi (if (if y &&& hi = 0 then (0 : Int32) else 1) = o then 0 else 1) o).bind (fun r => some (y, r.2)) := by
      intro o
      dsimp only [fnD_moved_113]
      by_cases e : y &&& hi = 0
      · rw [if_pos e, if_pos e]
        dsimp only [fnD_moved_131]
        by_cases e2 : (0 : Int32) = o
        · rw [if_pos e2, if_pos e2]
          rfl
        · rw [if_neg e2, if_neg e2]
          rfl
      · rw [if_neg e, if_neg e]
        dsimp only [fnD_moved_131]
        by_cases e2 : (1 : Int32) = o
        · rw [if_pos e2, if_pos e2]
          rfl
        · rw [if_neg e2, if_neg e2]
          rfl
    dsimp only [fnD_moved_104]
    by_cases e : d &&& q = 0
    · rw [if_pos e, h113, if_pos e]
    · rw [if_neg e, h113, if_neg e]
  dsimp only [fnD_moved_93]
  by_cases e : dn = 0
  · rw [if_pos e, h104, if_pos e]
  · rw [if_neg e, h104, if_neg e]
theorem D_mv (wd g : Nat → Int32) (tl : Int32 × Int64 × Int32 × Int32) {n z v c b bi hi : Int32} (hk : okW (n, z, v, c, bi, hi)) (k d : Int32) : fnD_moved (wd, g, pk (n, z, v, c, bi, hi), tl) k d hi = fnD_moved_14 (wd, g, pk (n, z, v, c, bi, hi), tl) k d hi c := by
  dsimp only [fnD_moved]
  rw [pk_c hk]
  exact if_01 hk.2.2.2 (fun q => fnD_moved_14 (wd, g, pk (n, z, v, c, bi, hi), tl) k d hi q)
/-- both ends of a shift -/
theorem fin_2 (wd g : Nat → Int32) (fl st : Int32) (tl : Int64 × Int32 × Int32) {n z v c b bi hi : Int32} (hd : wdt b bi hi) {x y d dn ca : Int32} (hy : y = x &&& bi) (hca : ca = if d &&& (if dn = 0 then hi else 1) = 0 then (0 : Int32) else 1) {fA : Option (Int32 × sW)} {fD : Option (Int32 × sD)} (eA : fA = fnW_shifted (n, z, v, c, bi, hi) x ca) (eD : fD = fnD_moved_93 (wd, g, fl, st, tl) d hi dn y) :
    ∃ (x : Int32) (w' : sW), fA = some (x, w') ∧ fD = some (x, (wd, g, pk w', st, tl)) ∧ vb b x ∧ okW w' ∧ w'.2.2.2.2 = (bi, hi) := by
  have oc : okb ca := by rw [hca]; exact okb_if
  rw [Sh, S_a n z v c bi hi x okb_if oc] at eA
  rw [M93, ← hca, T_b wd g fl st tl y hi bi okb_if oc, hy, wd_y hd] at eD
  exact ⟨_, _, eA, eD, wd_v hd _, stw_ok okb_if oc, rfl⟩
theorem W_of (w : sW) (k d : Int32) : fnW_ofShift w k d = fnW_ofShift_26 w k d (if d &&& (1 : Int32) = 0 then 0 else 1) (if d &&& w.2.2.2.2.2 = 0 then 0 else 1) := by
  dsimp only [fnW_ofShift]
  have h11 : ∀ q : Int32, fnW_ofShift_11 w k d q = fnW_ofShift_26 w k d q (if d &&& w.2.2.2.2.2 = 0 then 0 else 1) := by
    intro q
    dsimp only [fnW_ofShift_11]
    by_cases e : d &&& w.2.2.2.2.2 = 0
    · rw [if_pos e, if_pos e]
    · rw [if_neg e, if_neg e]
  by_cases e : d &&& (1 : Int32) = 0
  · rw [if_pos e, h11, if_pos e]
  · rw [if_neg e, h11, if_neg e]
theorem sim_shift (wd g : Nat → Int32) (tl : Int64 × Int32 × Int32) {n z v c b bi hi : Int32} (hk : okW (n, z, v, c, bi, hi)) (hd : wdt b bi hi) {d : Int32} (hdd : vb b d) {k : Nat} (hk4 : k < 4) :
    ∃ (x : Int32) (w' : sW), fnW_ofShift (n, z, v, c, bi, hi) (nI (48 + k)) d = some (x, w') ∧ fnD_moved (wd, g, pk (n, z, v, c, bi, hi), 0, tl) (nI k) d hi = some (x, (wd, g, pk w', 0, tl)) ∧ vb b x ∧ okW w' ∧ w'.2.2.2.2 = (bi, hi) := by
  rw [D_mv wd g (0, tl) (b := b) hk, W_of]
  have hc : okb c := hk.2.2.2
  have hsr := wd_m hd (vb_sr hdd)
  have hh : hi &&& bi = hi := by rw [a_cm, wd_h hd]
  have h1b : (1 : Int32) &&& bi = 1 := by rcases hd with ⟨-, rfl, -⟩ | ⟨-, rfl, -⟩ <;> decide
  dsimp only
  generalize hlo : (if d &&& (1 : Int32) = 0 then (0 : Int32) else 1) = lo
  generalize hhg : (if d &&& hi = 0 then (0 : Int32) else 1) = hg
  have l1 : lo = if d &&& (if (1 : Int32) = 0 then hi else 1) = 0 then (0 : Int32) else 1 := by rw [if_neg (show ¬ (1 : Int32) = 0 by decide), hlo]
  have l0 : hg = if d &&& (if (0 : Int32) = 0 then hi else 1) = 0 then (0 : Int32) else 1 := by rw [if_pos rfl, hhg]
  rcases (show k = 0 ∨ k = 1 ∨ k = 2 ∨ k = 3 by omega) with rfl | rfl | rfl | rfl
  · dsimp only [fnW_ofShift_26, fnD_moved_14]
    rw [if_pos (show nI (48 + 0) = (48 : Int32) from rfl), if_pos (show nI 0 - nI 0 / (2 : Int32) * (2 : Int32) = 0 by decide)]
    dsimp only [fnD_moved_27]
    rw [if_neg (show ¬ (1 : Int32) = 0 by decide)]
    dsimp only [fnD_moved_49]
    rw [if_pos (show nI 0 = (0 : Int32) from rfl)]
    rcases hc with rfl | rfl
    · rw [if_pos rfl, if_pos rfl]
      dsimp only [fnD_moved_60]
      rw [if_neg (show ¬ nI 0 = (2 : Int32) by decide)]
      dsimp only [fnD_moved_77]
      rw [if_neg (show ¬ nI 0 = (1 : Int32) by decide)]
      dsimp only [fnW_ofShift_75]
      rw [ob_id]
      exact fin_2 wd g _ 0 tl hd (dn := 1) (by rw [o_0, hsr]) l1 rfl rfl
    · rw [if_neg (show ¬ (1 : Int32) = 0 by decide), if_neg (show ¬ (1 : Int32) = 0 by decide)]
      dsimp only [fnD_moved_71, fnD_moved_77]
      rw [if_neg (show ¬ nI 0 = (1 : Int32) by decide)]
      dsimp only [fnW_ofShift_75]
      rw [ob_id]
      exact fin_2 wd g _ 0 tl hd (dn := 1) (by rw [a_or, hsr, hh]) l1 rfl rfl
  · dsimp only [fnW_ofShift_26, fnD_moved_14]
    rw [if_neg (show ¬ nI (48 + 1) = (48 : Int32) by decide), if_pos (show nI (48 + 1) = (49 : Int32) from rfl), if_neg (show ¬ nI 1 - nI 1 / (2 : Int32) * (2 : Int32) = 0 by decide)]
    dsimp only [fnD_moved_27]
    rw [if_pos (show (0 : Int32) = 0 from rfl), wd_2 hd]
    dsimp only [fnD_moved_49]
    rw [if_neg (show ¬ nI 1 = (0 : Int32) by decide)]
    dsimp only [fnD_moved_60]
    rw [if_neg (show ¬ nI 1 = (2 : Int32) by decide)]
    dsimp only [fnD_moved_77]
    rw [if_pos (show nI 1 = (1 : Int32) from rfl)]
    rcases hc with rfl | rfl
    · rw [if_pos rfl, if_pos rfl]
      dsimp only [fnW_ofShift_97]
      rw [ob_id]
      exact fin_2 wd g _ 0 tl hd (dn := 0) (by rw [o_0]) l0 rfl rfl
    · rw [if_neg (show ¬ (1 : Int32) = 0 by decide), if_neg (show ¬ (1 : Int32) = 0 by decide)]
      dsimp only [fnW_ofShift_97]
      rw [ob_id]
      exact fin_2 wd g _ 0 tl hd (dn := 0) (by rw [a_or, h1b]) l0 rfl rfl
  · dsimp only [fnW_ofShift_26, fnD_moved_14]
    rw [if_neg (show ¬ nI (48 + 2) = (48 : Int32) by decide), if_neg (show ¬ nI (48 + 2) = (49 : Int32) by decide), if_pos (show nI (48 + 2) = (50 : Int32) from rfl), if_pos (show nI 2 - nI 2 / (2 : Int32) * (2 : Int32) = 0 by decide)]
    dsimp only [fnD_moved_27]
    rw [if_neg (show ¬ (1 : Int32) = 0 by decide)]
    dsimp only [fnD_moved_49]
    rw [if_neg (show ¬ nI 2 = (0 : Int32) by decide)]
    dsimp only [fnD_moved_60]
    rw [if_pos (show nI 2 = (2 : Int32) from rfl), ob_id]
    by_cases e : d &&& hi = 0
    · rw [if_pos e, e, o_0]
      dsimp only [fnD_moved_77]
      rw [if_neg (show ¬ nI 2 = (1 : Int32) by decide)]
      exact fin_2 wd g _ 0 tl hd (dn := 1) hsr.symm l1 rfl rfl
    · rw [if_neg e, one_bit hd d e]
      dsimp only [fnD_moved_71, fnD_moved_77]
      rw [if_neg (show ¬ nI 2 = (1 : Int32) by decide)]
      exact fin_2 wd g _ 0 tl hd (dn := 1) (by rw [a_or, hsr, hh]) l1 rfl rfl
  · dsimp only [fnW_ofShift_26, fnD_moved_14]
    rw [if_neg (show ¬ nI (48 + 3) = (48 : Int32) by decide), if_neg (show ¬ nI (48 + 3) = (49 : Int32) by decide), if_neg (show ¬ nI (48 + 3) = (50 : Int32) by decide), if_neg (show ¬ nI 3 - nI 3 / (2 : Int32) * (2 : Int32) = 0 by decide)]
    dsimp only [fnD_moved_27]
    rw [if_pos (show (0 : Int32) = 0 from rfl), wd_2 hd]
    dsimp only [fnD_moved_49]
    rw [if_neg (show ¬ nI 3 = (0 : Int32) by decide)]
    dsimp only [fnD_moved_60]
    rw [if_neg (show ¬ nI 3 = (2 : Int32) by decide)]
    dsimp only [fnD_moved_77]
    rw [if_neg (show ¬ nI 3 = (1 : Int32) by decide), ob_id]
    exact fin_2 wd g _ 0 tl hd (dn := 0) rfl l0 rfl rfl
theorem bt_hi {d : Int32} (h : rng d) {i : Nat} (hi : 16 ≤ i) : bt d i = false := by
  rw [← q_m16 h, b_and, b_65535]
  simp
  omega
theorem q_swap {d : Int32} (h : rng d) : ((d <<< ((8 : Int32) &&& 31)) ||| (d >>> ((8 : Int32) &&& 31))) &&& (65535 : Int32) = (d >>> ((8 : Int32) &&& 31)) ||| ((d &&& (255 : Int32)) <<< ((8 : Int32) &&& 31)) := by
  refine b_ext (fun i hi => ?_)
  rw [b_and, b_or, b_or, b_shl8 _ hi, b_sshr8 _ hi, b_shl8 _ hi, b_and, b_255, b_65535]
  by_cases h1 : i < 8
  · have e1 : ¬ 8 ≤ i := by omega
    have e2 : i < 16 := by omega
    simp [e1, e2]
  · by_cases h2 : i < 16
    · have e1 : 8 ≤ i := by omega
      have e2 : i - 8 < 8 := by omega
      simp only [e1, e2, h2, decide_true, Bool.true_and, Bool.and_true]
      rw [Bool.or_comm]
    · have e2 : ¬ i - 8 < 8 := by omega
      have e3 : 8 + i < 32 ∨ ¬ 8 + i < 32 := by omega
      simp only [h2, e2, decide_false, Bool.and_false, Bool.or_false]
      by_cases h3 : 8 + i < 32
      · rw [if_pos h3, bt_hi h (by omega)]
      · rw [if_neg h3, bt_hi h (by omega)]
