/-! sixteen bits, and the closed forms of the small steps -/
def rng (x : Int32) : Prop := ∃ n : Nat, n < 65536 ∧ x = nI n
theorem rng_mask (x : Int32) : rng (x &&& (65535 : Int32)) := by
  obtain ⟨j, hj, e⟩ := pk_andE x (m := 65535) 16 (by decide)
  exact ⟨j, hj, e⟩
theorem rng_nI {n : Nat} (h : n < 65536) : rng (nI n) := ⟨n, h, rfl⟩
theorem rng_0 : rng 0 := ⟨0, by decide, rfl⟩
theorem rng_upd {f : Nat → Int32} {x : Int32} (hf : ∀ j, rng (f j)) (hx : rng x) (k : Nat) : ∀ j, rng (upd f k x j) := by
  intro j
  unfold upd
  split
  · exact hx
  · exact hf j
theorem rng_ne {x : Int32} (h : rng x) : ¬ x = (-1 : Int32) := by
  obtain ⟨n, hn, rfl⟩ := h
  intro e
  have h1 := congrArg Int32.toInt e
  rw [nI_toInt (by omega)] at h1
  have h2 : (-1 : Int32).toInt = -1 := by decide
  omega
theorem rng_nn {x : Int32} (h : rng x) : (0 : Int32) ≤ x := by
  obtain ⟨n, hn, rfl⟩ := h
  exact nI_pos' (by omega)
theorem q_odd {x : Int32} (h : rng x) : x - x / (2 : Int32) * (2 : Int32) = x &&& (1 : Int32) := by
  obtain ⟨n, hn, rfl⟩ := h
  rw [pk_andN (m := 1) (by omega) 1 (by decide)]
  exact pk_rem (a := n) (d := 2) (by omega) (by omega) (by omega)
theorem q_half {x : Int32} (h : rng x) : x / (2 : Int32) = x >>> ((1 : Int32) &&& 31) := by
  obtain ⟨n, hn, rfl⟩ := h
  rw [pk_shrN (by omega) ((1 : Int32) &&& 31) 1 (by decide)]
  exact pk_div (a := n) (d := 2) (by omega) (by omega) (by omega)
theorem q_ix {x : Int32} (h : rng x) (hx : x < (4096 : Int32)) : ixk (x >>> ((1 : Int32) &&& 31)) 2048 = true := by
  obtain ⟨n, hn, rfl⟩ := h
  rw [pk_shrN (by omega) ((1 : Int32) &&& 31) 1 (by decide)]
  have h1 : n < 4096 := (nI_ltI (a := n) (b := 4096) (by omega) (by omega)).mp hx
  exact ixk_of (vp_in_nI (by omega) (by omega))
theorem ix8 {r : Nat} (h : r < 8) : ixk (nI r) 8 = true := ixk_of (vp_in_nI h (by omega))
theorem cl8 {r : Nat} (h : r < 8) : (nI r).toNatClampNeg = r := nI_clamp (by omega)
/-- 0 where a word lies at the address, else why it stops -/
def ecx (a : Int32) : Int32 := if a &&& (1 : Int32) = 0 then (if a < (4096 : Int32) then 0 else 4) else 3
def eco (a : Int32) : Int32 := if a < (4096 : Int32) then 0 else 4
def gw (wd : Nat → Int32) (a : Int32) : Int32 := wd (a >>> ((1 : Int32) &&& 31)).toNatClampNeg
def ru (rg : Nat → Int32) (r : Nat) (d : Int32) : Nat → Int32 := upd rg r ((rg r + d) &&& (65535 : Int32))
theorem ru_rng {rg : Nat → Int32} (h : ∀ j, rng (rg j)) (r : Nat) (d : Int32) : ∀ j, rng (ru rg r d j) := rng_upd h (rng_mask _) r
theorem ru_at (rg : Nat → Int32) (r : Nat) (d : Int32) : ru rg r d r = (rg r + d) &&& (65535 : Int32) := by
  unfold ru upd
  rw [if_pos rfl]
theorem A_up (u : sA) {r : Nat} (hr : r < 8) (d : Int32) : fnA_stepUp u (nI r) d = some (u.2.1 r, (u.1, ru u.2.1 r d, u.2.2)) := by
  unfold fnA_stepUp
  rw [if_pos (ix8 hr), if_pos (ix8 hr), cl8 hr]
  rfl
theorem A_dn (u : sA) {r : Nat} (hr : r < 8) (d : Int32) : fnA_stepDown u (nI r) d = some (ru u.2.1 r (-d) r, (u.1, ru u.2.1 r (-d), u.2.2)) := by
  unfold fnA_stepDown
  rw [if_pos (ix8 hr), if_pos (ix8 hr), if_pos (ix8 hr), cl8 hr, Int32.sub_eq_add_neg]
  rfl
theorem D_add (v : sD) {r : Nat} (hr : r < 8) (d : Int32) : fnD_add v (nI r) d = some ((), (v.1, ru v.2.1 r d, v.2.2)) := by
  unfold fnD_add
  rw [if_pos (ix8 hr), if_pos (ix8 hr), cl8 hr]
  rfl
theorem A_rw (u : sA) {a : Int32} (h : rng a) (h0 : u.2.2.1 = 0) : fnA_readWord u a = some (if ecx a = 0 then gw u.1 a else -1, (u.1, u.2.1, ecx a, u.2.2.2)) := by
  obtain ⟨wd, rg, st, tl⟩ := u
  simp only at h0
  subst h0
  unfold fnA_readWord ecx gw
  by_cases h1 : a &&& (1 : Int32) = 0
  · by_cases h2 : a < (4096 : Int32)
    · rw [if_pos h1, if_pos h2, if_pos (q_ix h h2), if_pos h1, if_pos h2, if_pos rfl]
    · rw [if_pos h1, if_neg h2, if_pos h1, if_neg h2, if_neg (by decide)]
  · rw [if_neg h1, if_neg h1, if_neg (by decide)]
theorem A_rb (u : sA) {a : Int32} (h : rng a) (h0 : u.2.2.1 = 0) : fnA_readByte u a = some (if eco a = 0 then (gw u.1 a >>> (((a &&& (1 : Int32)) * (8 : Int32)) &&& 31)) &&& (255 : Int32) else -1, (u.1, u.2.1, eco a, u.2.2.2)) := by
  obtain ⟨wd, rg, st, tl⟩ := u
  simp only at h0
  subst h0
  unfold fnA_readByte eco gw
  by_cases h2 : a < (4096 : Int32)
  · rw [if_pos h2, if_pos (q_ix h h2), if_pos h2, if_pos rfl]
    rfl
  · rw [if_neg h2, if_neg h2, if_neg (by decide)]
theorem D_wd (v : sD) {a : Int32} (h : rng a) (h0 : v.2.2.2.1 = 0) : fnD_word v a = some (if ecx a = 0 then gw v.1 a else 0, (v.1, v.2.1, v.2.2.1, ecx a, v.2.2.2.2)) := by
  obtain ⟨wd, rg, fl, st, tl⟩ := v
  simp only at h0
  subst h0
  unfold fnD_word ecx gw
  rw [if_pos (show (0 : Int32) ≤ 0 by decide), q_odd h]
  by_cases h1 : a &&& (1 : Int32) = 0
  · by_cases h2 : a < (4096 : Int32)
    · rw [if_pos h1, if_pos h2, if_pos h1, if_pos h2, if_pos rfl]
      unfold fnD_word_32
      rw [if_pos (by decide), q_half h, if_pos (q_ix h h2)]
      rfl
    · rw [if_pos h1, if_neg h2, if_pos h1, if_neg h2, if_neg (by decide)]
      unfold fnD_word_32
      rw [if_neg (by decide)]
      rfl
  · rw [if_neg h1, if_neg h1, if_neg (by decide)]
    unfold fnD_word_32
    rw [if_neg (by decide)]
    rfl
theorem D_stop (v : sD) (a : Int32) (h0 : ¬ v.2.2.2.1 ≤ 0) : fnD_word v a = some (0, v) := by
  unfold fnD_word
  rw [if_neg h0]
theorem D_oc (v : sD) {a : Int32} (h : rng a) (h0 : v.2.2.2.1 = 0) : fnD_octet v a = some (if eco a = 0 then (gw v.1 a >>> (((a &&& (1 : Int32)) * (8 : Int32)) &&& 31)) &&& (255 : Int32) else 0, (v.1, v.2.1, v.2.2.1, eco a, v.2.2.2.2)) := by
  obtain ⟨wd, rg, fl, st, tl⟩ := v
  simp only at h0
  subst h0
  unfold fnD_octet eco gw
  rw [if_pos (show (0 : Int32) ≤ 0 by decide)]
  by_cases h2 : a < (4096 : Int32)
  · rw [if_pos h2, if_pos h2, if_pos rfl]
    unfold fnD_octet_22
    rw [if_pos (by decide), q_odd h, q_half h, if_pos (q_ix h h2), Int32.mul_comm (8 : Int32)]
    rfl
  · rw [if_neg h2, if_neg h2, if_neg (by decide)]
    unfold fnD_octet_22
    rw [if_neg (by decide)]
    rfl
theorem ecx_or (a : Int32) : ecx a = 0 ∨ ecx a = 3 ∨ ecx a = 4 := by
  unfold ecx
  split
  · split
    · exact Or.inl rfl
    · exact Or.inr (Or.inr rfl)
  · exact Or.inr (Or.inl rfl)
theorem eco_or (a : Int32) : eco a = 0 ∨ eco a = 3 ∨ eco a = 4 := by
  unfold eco
  split
  · exact Or.inl rfl
  · exact Or.inr (Or.inr rfl)
theorem D_fo (v : sD) (hr : rng (v.2.1 7)) (h0 : v.2.2.2.1 = 0) : fnD_following v = some (if ecx (v.2.1 7) = 0 then gw v.1 (v.2.1 7) else 0, (v.1, ru v.2.1 7 2, v.2.2.1, ecx (v.2.1 7), v.2.2.2.2)) := by
  unfold fnD_following
  rw [if_pos (by decide)]
  show (fnD_add v (nI 7) 2).bind (fun r2 => (fnD_word r2.2 (v.2.1 7)).bind (fun r4 => some (r4.1, r4.2))) = _
  rw [D_add v (by decide)]
  show (fnD_word (v.1, ru v.2.1 7 2, v.2.2) (v.2.1 7)).bind (fun r4 => some (r4.1, r4.2)) = _
  rw [D_wd (v.1, ru v.2.1 7 2, v.2.2) hr h0]
  rfl
