/-! branches, SOB, the flags' instructions -/
theorem t8 (x : Int32) : (x &&& (255 : Int32)).toInt8 = x.toInt8 := by
  apply Int8.toBitVec_inj.mp
  rw [Int32.toBitVec_toInt8, Int32.toBitVec_toInt8]
  apply BitVec.eq_of_getLsbD_eq
  intro i hi
  have hm : ∀ i < 8, (255 : Int32).toBitVec.getLsbD i = true := by decide
  rw [BitVec.getLsbD_signExtend, BitVec.getLsbD_signExtend, if_pos (by omega), if_pos (by omega), Int32.toBitVec_and, BitVec.getLsbD_and, hm i hi, Bool.and_true]
theorem t8d : ∀ j, j < 256 → (nI j).toInt8.toInt32 = if nI j ≤ (127 : Int32) then nI j else nI j - (256 : Int32) := by decide +kernel
theorem q_br (x : Int32) : x.toInt8.toInt32 = if x &&& (255 : Int32) ≤ (127 : Int32) then x &&& (255 : Int32) else (x &&& (255 : Int32)) - (256 : Int32) := by
  obtain ⟨j, hj, e⟩ := vb_1 x
  rw [← t8, e]
  exact t8d j hj
theorem sim_branch (wd rg : Nat → Int32) (hw : ∀ j, rng (wd j)) (hg : ∀ j, rng (rg j)) (al : Int64) (sp pl pd : Int32) (wk : sW) (hk : okW wk) {n : Nat} (hn : n < 65536) (hb : (1 ≤ n / 256 ∧ n / 256 ≤ 7) ∨ (128 ≤ n / 256 ∧ n / 256 ≤ 135)) :
    ∃ rA rD, fnA_doBranch (wd, rg, 0, al, sp, pl, wk) (nI n) = some ((), rA) ∧ fnD_branch (wd, rg, pk wk, 0, al, sp, pd) (nI n) = some ((), rD) ∧ RI al sp rA rD := by
  obtain ⟨fn, fz, fv, fc, bi, hi⟩ := wk
  dsimp only [fnA_doBranch, fnD_branch]
  rw [w_8 hn, D_it wd rg (0, al, sp + 1, pd) hk]
  obtain ⟨x, ox, h1, h2⟩ := sim_true (wd, rg, pk (fn, fz, fv, fc, bi, hi), 0, al, sp + 1, pd) bi hi hk.1 hk.2.1 hk.2.2.1 hk.2.2.2 (k := n / 256) (by omega)
  rw [h1, h2, Option.bind_some, Option.bind_some]
  dsimp only
  by_cases e : x = 0
  · rw [if_pos e, if_pos e]
    exact ⟨_, _, rfl, rfl, RI_ok hw hg hk (J_le (J_add (J_0 sp) 1) (by decide))⟩
  · rw [if_neg e, if_neg e, if_pos (by decide), if_pos (by decide), q_br]
    have hj : J 40 sp (sp + 1 + 1) := J_le (J_add (J_add (J_0 sp) 1) 1) (by decide)
    by_cases e1 : nI n &&& (255 : Int32) ≤ (127 : Int32)
    · rw [if_pos e1, if_pos e1]
      dsimp only [fnD_branch_57]
      rw [show (7 : Int32) = nI 7 from rfl, D_add _ (by decide), Option.bind_some]
      exact ⟨_, _, rfl, rfl, RI_ok hw (ru_rng hg 7 _) hk hj⟩
    · rw [if_neg e1, if_neg e1]
      dsimp only [fnD_branch_57]
      rw [show (7 : Int32) = nI 7 from rfl, D_add _ (by decide), Option.bind_some]
      exact ⟨_, _, rfl, rfl, RI_ok hw (ru_rng hg 7 _) hk hj⟩
theorem w_67 {n : Nat} (hn : n < 65536) : (nI n >>> ((6 : Int32) &&& 31)) &&& (7 : Int32) = nI (n / 64 % 8) := by rw [w_6 hn, d_r]
theorem sim_sob (wd rg : Nat → Int32) (hw : ∀ j, rng (wd j)) (hg : ∀ j, rng (rg j)) (al : Int64) (sp pl pd : Int32) (wk : sW) (hk : okW wk) {n : Nat} (hn : n < 65536) :
    ∃ rA rD, fnA_doSubtractAndBranch (wd, rg, 0, al, sp, pl, wk) (nI n) = some ((), rA) ∧ fnD_count (wd, rg, pk wk, 0, al, sp, pd) (nI n) = some ((), rD) ∧ RI al sp rA rD := by
  have hr : n / 64 % 8 < 8 := Nat.mod_lt _ (by decide)
  dsimp only [fnA_doSubtractAndBranch, fnD_count]
  rw [w_67 hn, A_dn _ hr, D_add _ hr, Option.bind_some, Option.bind_some]
  dsimp only
  rw [if_pos (ix8 hr), cl8 hr]
  by_cases e : ru rg (n / 64 % 8) (-1 : Int32) (n / 64 % 8) = 0
  · rw [if_pos e, if_pos e]
    exact ⟨_, _, rfl, rfl, RI_ok hw (ru_rng hg _ _) hk (J_le (J_add (J_0 sp) 2) (by decide))⟩
  · rw [if_neg e, if_neg e, show (7 : Int32) = nI 7 from rfl, A_dn _ (by decide), D_add _ (by decide), Option.bind_some, Option.bind_some, Int32.neg_mul]
    exact ⟨_, _, rfl, rfl, RI_ok hw (ru_rng (ru_rng hg _ _) _ _) hk (J_le (J_add (J_add (J_0 sp) 2) 1) (by decide))⟩
theorem sim_flags (wd rg : Nat → Int32) (hw : ∀ j, rng (wd j)) (hg : ∀ j, rng (rg j)) (al : Int64) (sp pl pd : Int32) (wk : sW) (hk : okW wk) {n : Nat} (h1 : 160 ≤ n) (h2 : n ≤ 191) :
    ∃ rA rD, fnA_doFlags (wd, rg, 0, al, sp, pl, wk) (nI n) = some ((), rA) ∧ fnD_flag (wd, rg, pk wk, 0, al, sp, pd) (nI n) = some ((), rD) ∧ RI al sp rA rD := by
  obtain ⟨fn, fz, fv, fc, bi, hi⟩ := wk
  obtain ⟨o1, o2, o3, o4⟩ := hk
  dsimp only at o1 o2 o3 o4
  have hfl := fl_eq o1 o2 o3 o4 (n - 160) (by omega)
  rw [show 160 + (n - 160) = n by omega] at hfl
  have hj : J 40 sp (sp + 1) := J_le (J_add (J_0 sp) 1) (by decide)
  dsimp only [fnA_doFlags, fnD_flag]
  by_cases e : nI n &&& (16 : Int32) = 0
  · rw [if_pos e, if_pos e]
    dsimp only [fnA_doFlags_20, fnD_flag_41]
    rw [W_ch bi hi o1 o2 o3 o4 (Or.inl rfl), Option.bind_some]
    rw [if_pos e, if_pos e] at hfl
    refine ⟨_, _, rfl, rfl, ⟨rfl, rfl, rfl, rfl, rfl, hfl, ⟨okb_sel o1 (Or.inl rfl), okb_sel o2 (Or.inl rfl), okb_sel o3 (Or.inl rfl), okb_sel o4 (Or.inl rfl)⟩, hw, hg, Or.inl rfl, fun _ => ⟨rfl, hj⟩⟩⟩
  · rw [if_neg e, if_neg e]
    dsimp only [fnA_doFlags_20, fnD_flag_41]
    rw [W_ch bi hi o1 o2 o3 o4 (Or.inr rfl), Option.bind_some]
    rw [if_neg e, if_neg e] at hfl
    refine ⟨_, _, rfl, rfl, ⟨rfl, rfl, rfl, rfl, rfl, hfl, ⟨okb_sel o1 (Or.inr rfl), okb_sel o2 (Or.inr rfl), okb_sel o3 (Or.inr rfl), okb_sel o4 (Or.inr rfl)⟩, hw, hg, Or.inl rfl, fun _ => ⟨rfl, hj⟩⟩⟩
/-! jumps -/
theorem i_sub1 {x y z : Int32} (h : x + 1 = y + z) : x = y + (z - 1) := by
  have h2 : x + 1 - 1 = y + z - 1 := by rw [h]
  rw [Int32.add_sub_cancel, Int32.sub_eq_add_neg, Int32.add_assoc, ← Int32.sub_eq_add_neg] at h2
  exact h2
theorem A_ft (wd rg : Nat → Int32) (hw : ∀ j, rng (wd j)) (hg : ∀ j, rng (rg j)) (al : Int64) (sp pl : Int32) (wk : sW) {dd : Nat} (h8 : 8 ≤ dd) (hdd : dd < 64) : fnA_findTarget (wd, rg, 0, al, sp, pl, wk) (nI dd) = some (if (EA wd rg (dd / 8) (dd % 8) 2).2.1 = 0 then (EA wd rg (dd / 8) (dd % 8) 2).2.2 else -1, (wd, (EA wd rg (dd / 8) (dd % 8) 2).1, (EA wd rg (dd / 8) (dd % 8) 2).2.1, al, sp + (mcT (dd / 8) - 1), pl, wk)) := by
  dsimp only [fnA_findTarget, nm]
  rw [d_m hdd, d_r, if_neg (show ¬ nI (dd / 8) = 0 from n_ne (b := 0) (by omega) (by omega) (by omega)), if_pos (ix8 (by omega)), cl8 (by omega), A_fa wd rg (al, sp + (mcT (dd / 8) - 1), pl, wk) hw hg (by omega) (by omega) (by omega)]
  rfl
theorem A_ft0 (wd rg : Nat → Int32) (tl : Int64 × Int32 × Int32 × sW) {dd : Nat} (h8 : dd < 8) : fnA_findTarget (wd, rg, 0, tl) (nI dd) = some (-1, (wd, rg, 2, tl)) := by
  dsimp only [fnA_findTarget]
  rw [d_m (by omega), if_pos (show nI (dd / 8) = 0 by rw [show dd / 8 = 0 by omega]; rfl)]
theorem J_m {m : Nat} (h : m < 8) (sp : Int32) : J 5 sp (sp + (mcT m - 1)) := by
  rcases (show m = 0 ∨ m = 1 ∨ m = 2 ∨ m = 3 ∨ m = 4 ∨ m = 5 ∨ m = 6 ∨ m = 7 by omega) with rfl | rfl | rfl | rfl | rfl | rfl | rfl | rfl
  · exact ⟨0, by decide, rfl⟩
  · exact ⟨1, by decide, rfl⟩
  · exact ⟨1, by decide, rfl⟩
  · exact ⟨2, by decide, rfl⟩
  · exact ⟨2, by decide, rfl⟩
  · exact ⟨3, by decide, rfl⟩
  · exact ⟨3, by decide, rfl⟩
  · exact ⟨4, by decide, rfl⟩
/-- the way to a jump's target, both sides -/
theorem sim_tgt (wd rg : Nat → Int32) (hw : ∀ j, rng (wd j)) (hg : ∀ j, rng (rg j)) (al : Int64) (sp pl pd : Int32) (wk : sW) (fl : Int32) {dd : Nat} (h8 : 8 ≤ dd) (hdd : dd < 64) :
    ∃ (g : Nat → Int32) (er a sp' tk' pd' : Int32), fnA_findTarget (wd, rg, 0, al, sp, pl, wk) (nI dd) = some (if er = 0 then a else -1, (wd, g, er, al, sp', pl, wk)) ∧ fnD_find (wd, rg, fl, 0, al, sp, pd) (nI dd) 0 = some ((), (wd, g, fl, er, al, tk', pd')) ∧ (∀ j, rng (g j)) ∧ (er = 0 ∨ er = 3 ∨ er = 4) ∧ rng a ∧ (er = 0 → pd' = a ∧ sp' = tk' ∧ J 5 sp sp') := by
  obtain ⟨tk', pd', hf, hi⟩ := D_adr wd rg hw hg fl al sp pd h8 hdd (b := 0) (Or.inl rfl)
  refine ⟨_, _, _, _, tk', pd', A_ft wd rg hw hg al sp pl wk h8 hdd, hf, EA_g hg _ _ _, EA_e _ _ _ _ _, EA_a hw hg _ _ _, fun h => ?_⟩
  obtain ⟨h1, h2⟩ := hi h
  exact ⟨h1, (i_sub1 h2).symm, J_m (by omega) sp⟩
