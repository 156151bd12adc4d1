/-! bits (the first rows are of the kit's BITS), and how a result is put -/
def bt (x : Int32) (i : Nat) : Bool := x.toBitVec.getLsbD i
theorem b_ext {x y : Int32} (h : ∀ i, i < 32 → bt x i = bt y i) : x = y := Int32.toBitVec_inj.mp (BitVec.eq_of_getLsbD_eq (fun i hi => h i hi))
theorem b_or (x y : Int32) (i : Nat) : bt (x ||| y) i = (bt x i || bt y i) := by unfold bt; rw [Int32.toBitVec_or, BitVec.getLsbD_or]
theorem b_and (x y : Int32) (i : Nat) : bt (x &&& y) i = (bt x i && bt y i) := by unfold bt; rw [Int32.toBitVec_and, BitVec.getLsbD_and]
theorem b_xor (x y : Int32) (i : Nat) : bt (x ^^^ y) i = (bt x i ^^ bt y i) := by unfold bt; rw [Int32.toBitVec_xor, BitVec.getLsbD_xor]
theorem a_or (x y m : Int32) : (x ||| y) &&& m = (x &&& m) ||| (y &&& m) := b_ext (fun i _ => by simp only [b_and, b_or]; cases bt x i <;> cases bt y i <;> cases bt m i <;> rfl)
theorem a_as (x y z : Int32) : (x &&& y) &&& z = x &&& (y &&& z) := b_ext (fun i _ => by simp only [b_and]; cases bt x i <;> cases bt y i <;> cases bt z i <;> rfl)
theorem a_cm (x y : Int32) : x &&& y = y &&& x := b_ext (fun i _ => by simp only [b_and]; cases bt x i <;> cases bt y i <;> rfl)
theorem o_cm (x y : Int32) : x ||| y = y ||| x := b_ext (fun i _ => by simp only [b_or]; cases bt x i <;> cases bt y i <;> rfl)
theorem rng_of {x : Int32} (h : x &&& (65535 : Int32) = x) : rng x := by
  rw [← h]
  exact rng_mask x
theorem rng_or {x y : Int32} (hx : rng x) (hy : rng y) : rng (x ||| y) := rng_of (by rw [a_or, q_m16 hx, q_m16 hy])
theorem rng_and {x : Int32} (hx : rng x) (m : Int32) : rng (x &&& m) := rng_of (by rw [a_as, a_cm m, ← a_as, q_m16 hx])
theorem q_hi {x : Int32} (h : rng x) : x &&& (-256 : Int32) = x &&& (65280 : Int32) := by
  have e : x &&& (-256 : Int32) = (x &&& (65535 : Int32)) &&& (-256 : Int32) := by rw [q_m16 h]
  rw [e, a_as]
  rfl
theorem vb_rng {b x : Int32} (h : vb b x) : rng x := by
  obtain ⟨n, hn, rfl⟩ := h
  refine ⟨n, ?_, rfl⟩
  split at hn <;> omega
theorem vb_lt {x : Int32} (h : vb 1 x) : ∃ n : Nat, n < 256 ∧ x = nI n := h
theorem q_sg : ∀ n, n < 256 → (nI n).toInt8.toInt32 &&& (65535 : Int32) = if nI n ≤ (127 : Int32) then nI n else nI n ||| (65280 : Int32) := by decide +kernel
theorem q_sh {x : Int32} (h : rng x) : ((x &&& (1 : Int32)) * (8 : Int32)) &&& 31 = 0 ∨ ((x &&& (1 : Int32)) * (8 : Int32)) &&& 31 = 8 := by
  obtain ⟨n, hn, rfl⟩ := h
  rw [pk_andN (m := 1) (by omega) 1 (by decide)]
  rcases (show n % 2 ^ 1 = 0 ∨ n % 2 ^ 1 = 1 by omega) with e | e <;> rw [e]
  · exact Or.inl (by decide)
  · exact Or.inr (by decide)
theorem rng_sl {x s : Int32} (h : vb 1 x) (hs : s = 0 ∨ s = 8) : rng (x <<< s) := by
  obtain ⟨n, hn, rfl⟩ := vb_lt h
  rcases hs with rfl | rfl
  · rw [pk_shlN (n := n) 0 0 (by decide) (by omega)]
    exact rng_nI (by omega)
  · rw [pk_shlN (n := n) 8 8 (by decide) (by omega)]
    exact rng_nI (by omega)
theorem sim_put (wd g : Nat → Int32) (hw : ∀ j, rng (wd j)) (hg : ∀ j, rng (g j)) (al : Int64) (sp pl : Int32) (wk : sW) (fl pd : Int32) {r : Nat} (hr : r < 8) {b : Int32} (hb : b = 0 ∨ b = 1) (hp : PR pl pd r b) {x : Int32} (hx : vb b x) {wh : Int32} (hwh : b = 0 ∨ wh = 0 ∨ ¬ pl = (-1 : Int32)) :
    ∃ wd' g' : Nat → Int32, fnA_putResult (wd, g, 0, al, sp, pl, wk) (nI r) x b = some ((), (wd', g', 0, al, sp + 1, pl, wk)) ∧ fnD_put (wd, g, fl, 0, al, sp, pd) x b wh = some ((), (wd', g', fl, 0, al, sp + 1, pd)) ∧ (∀ j, rng (wd' j)) ∧ (∀ j, rng (g' j)) := by
  dsimp only [fnA_putResult, fnD_put]
  rcases hp with ⟨rfl, rfl⟩ | ⟨rfl, h1, h2, h3⟩
  · rw [if_pos rfl, if_neg (neg2 r hr), neg1 r hr]
    rcases hb with rfl | rfl
    · rw [if_pos rfl, if_pos rfl]
      dsimp only [fnA_putResult_43, fnD_put_72]
      rw [if_pos (ix8 hr), if_pos (ix8 hr), cl8 hr]
      exact ⟨_, _, rfl, rfl, hw, rng_upd hg (vb_rng hx) r⟩
    · have hwh : wh = 0 := by
        rcases hwh with h | h | h
        · exact absurd h (by decide)
        · exact h
        · exact absurd rfl h
      subst hwh
      rw [if_neg (show ¬ (1 : Int32) = 0 by decide), if_neg (show ¬ (1 : Int32) = 0 by decide), if_pos rfl, if_pos (ix8 hr), if_pos (ix8 hr), cl8 hr, q_hi (hg r)]
      dsimp only [fnA_putResult_43, fnD_put_72]
      rw [if_pos (ix8 hr), if_pos (ix8 hr), cl8 hr]
      exact ⟨_, _, rfl, rfl, hw, rng_upd hg (rng_or (rng_and (hg r) _) (vb_rng hx)) r⟩
  · rw [if_neg (rng_ne h1), if_pos (rng_nn h1), q_odd h1, q_half h1, if_pos (q_ix h1 h2), if_pos (q_ix h1 h2), if_pos (q_ix h1 h2), Int32.mul_comm (8 : Int32)]
    rcases hb with rfl | rfl
    · rw [if_pos rfl, if_pos rfl]
      exact ⟨_, _, rfl, rfl, rng_upd hw (vb_rng hx) _, hg⟩
    · rw [if_neg (by decide), if_neg (by decide)]
      dsimp only [fnA_shiftOf]
      rw [Option.bind_some]
      dsimp only
      repeat rw [if_pos (q_ix h1 h2)]
      exact ⟨_, _, rfl, rfl, rng_upd hw (rng_or (rng_and (hw _) _) (rng_sl hx (q_sh h1))) _, hg⟩
theorem sim_putS (wd g : Nat → Int32) (hw : ∀ j, rng (wd j)) (hg : ∀ j, rng (g j)) (al : Int64) (sp pl : Int32) (wk : sW) (fl pd : Int32) {r : Nat} (hr : r < 8) (hp : pd = (-1 : Int32) - nI r) {x : Int32} (hx : vb 1 x) :
    ∃ g' : Nat → Int32, fnA_putSigned (wd, g, 0, al, sp, pl, wk) (nI r) x = some ((), (wd, g', 0, al, sp + 1, pl, wk)) ∧ fnD_put (wd, g, fl, 0, al, sp, pd) x 1 1 = some ((), (wd, g', fl, 0, al, sp + 1, pd)) ∧ (∀ j, rng (g' j)) := by
  subst hp
  obtain ⟨n, hn, rfl⟩ := vb_lt hx
  dsimp only [fnA_putSigned, fnD_put]
  rw [if_pos (ix8 hr), if_neg (neg2 r hr), neg1 r hr, if_neg (by decide), if_neg (by decide), q_sg n hn, cl8 hr]
  dsimp only [fnD_put_72]
  rw [if_pos (ix8 hr), if_pos (ix8 hr), cl8 hr]
  by_cases h : nI n ≤ (127 : Int32)
  · rw [if_pos h, if_pos h]
    exact ⟨_, rfl, rfl, rng_upd hg (rng_nI (by omega)) r⟩
  · rw [if_neg h, if_neg h]
    exact ⟨_, rfl, rfl, rng_upd hg (rng_or (rng_nI (by omega)) ⟨65280, by decide, rfl⟩) r⟩
