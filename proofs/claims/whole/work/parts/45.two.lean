/-! flags, and the work on two operands -/
def okb (x : Int32) : Prop := x = 0 ∨ x = 1
def okW (w : sW) : Prop := okb w.1 ∧ okb w.2.1 ∧ okb w.2.2.1 ∧ okb w.2.2.2.1
def pk4 (n z v c : Int32) : Int32 := (((if n = 0 then (0 : Int32) else 8) ||| (if z = 0 then 0 else 4)) ||| (if v = 0 then 0 else 2)) ||| (if c = 0 then 0 else 1)
def pk (w : sW) : Int32 := pk4 w.1 w.2.1 w.2.2.1 w.2.2.2.1
def wdt (b bi hi : Int32) : Prop := (b = 0 ∧ bi = 65535 ∧ hi = 32768) ∨ (b = 1 ∧ bi = 255 ∧ hi = 128)
theorem okb_bok {x : Int32} (h : okb x) : bok x = true := by rcases h with rfl | rfl <;> rfl
theorem okb_if {c : Prop} [Decidable c] : okb (if c then (0 : Int32) else 1) := by split <;> first | exact Or.inl rfl | exact Or.inr rfl
theorem okb_if' {c : Prop} [Decidable c] : okb (if c then (1 : Int32) else 0) := by split <;> first | exact Or.inl rfl | exact Or.inr rfl
theorem wd_h {b bi hi : Int32} (h : wdt b bi hi) : bi &&& hi = hi := by rcases h with ⟨-, rfl, rfl⟩ | ⟨-, rfl, rfl⟩ <;> decide
theorem wd_2 {b bi hi : Int32} (h : wdt b bi hi) : ((2 : Int32) * hi) - (1 : Int32) = bi := by rcases h with ⟨-, rfl, rfl⟩ | ⟨-, rfl, rfl⟩ <;> decide
theorem wd_b {b bi hi : Int32} (h : wdt b bi hi) : b = 0 ∨ b = 1 := by rcases h with ⟨h, -⟩ | ⟨h, -⟩ <;> simp [h]
theorem q_m8 {x : Int32} (h : vb 1 x) : x &&& (255 : Int32) = x := by
  obtain ⟨n, hn, rfl⟩ := vb_lt h
  rw [pk_andN (m := 255) (by omega) 8 (by decide), Nat.mod_eq_of_lt (by simpa using hn)]
theorem wd_m {b bi hi : Int32} (h : wdt b bi hi) {x : Int32} (hx : vb b x) : x &&& bi = x := by
  rcases h with ⟨rfl, rfl, rfl⟩ | ⟨rfl, rfl, rfl⟩
  · exact q_m16 hx
  · exact q_m8 hx
theorem wd_v {b bi hi : Int32} (h : wdt b bi hi) (x : Int32) : vb b (x &&& bi) := by
  rcases h with ⟨rfl, rfl, rfl⟩ | ⟨rfl, rfl, rfl⟩
  · exact vb_0 (rng_mask x)
  · exact vb_1 x
theorem wd_y {b bi hi : Int32} (h : wdt b bi hi) (x : Int32) : (x &&& bi) &&& hi = x &&& hi := by rw [a_as, wd_h h]
def stw (y hi ov ca bi : Int32) : sW := (if y &&& hi = 0 then 0 else 1, if y = 0 then 1 else 0, ov, ca, bi, hi)
theorem stw_ok {y hi ov ca bi : Int32} (h1 : okb ov) (h2 : okb ca) : okW (stw y hi ov ca bi) := ⟨okb_if, okb_if', h1, h2⟩
theorem S_a (n z v c bi hi x : Int32) {ov ca : Int32} (h1 : okb ov) (h2 : okb ca) : fnW_settled (n, z, v, c, bi, hi) x ov ca = some (x &&& bi, stw (x &&& bi) hi ov ca bi) := by
  dsimp only [fnW_settled, stw]
  by_cases e1 : (x &&& bi) &&& hi = 0
  · rw [if_pos e1, if_pos e1]
    dsimp only [fnW_settled_24]
    by_cases e2 : x &&& bi = 0
    · rw [if_pos (by decide), if_pos e2, if_pos e2]
      dsimp only [fnW_settled_38]
      rw [if_pos (by decide), if_pos (okb_bok h1), if_pos (okb_bok h2)]
    · rw [if_pos (by decide), if_neg e2, if_neg e2]
      dsimp only [fnW_settled_38]
      rw [if_pos (by decide), if_pos (okb_bok h1), if_pos (okb_bok h2)]
  · rw [if_neg e1, if_neg e1]
    dsimp only [fnW_settled_24]
    by_cases e2 : x &&& bi = 0
    · rw [if_pos (by decide), if_pos e2, if_pos e2]
      dsimp only [fnW_settled_38]
      rw [if_pos (by decide), if_pos (okb_bok h1), if_pos (okb_bok h2)]
    · rw [if_pos (by decide), if_neg e2, if_neg e2]
      dsimp only [fnW_settled_38]
      rw [if_pos (by decide), if_pos (okb_bok h1), if_pos (okb_bok h2)]
theorem T_c (wd g : Nat → Int32) (fl st : Int32) (tl : Int64 × Int32 × Int32) (y hi ov ca : Int32) : fnD_tell (wd, g, fl, st, tl) y hi ov ca = some ((), (wd, g, (((if y &&& hi = 0 then (0 : Int32) else 8) + (if y = 0 then 4 else 0)) + (if ov = 0 then 0 else 2)) + (if ca = 0 then 0 else 1), st, tl)) := by
  dsimp only [fnD_tell]
  by_cases e0 : y &&& hi = 0
  · rw [if_pos e0, if_pos e0]
    dsimp only [fnD_tell_13]
    by_cases e1 : y = 0
    · rw [if_pos e1, if_pos e1]
      dsimp only [fnD_tell_22]
      by_cases e2 : ov = 0
      · rw [if_pos e2, if_pos e2]
        dsimp only [fnD_tell_32]
        by_cases e3 : ca = 0
        · rw [if_pos e3, if_pos e3]
          rfl
        · rw [if_neg e3, if_neg e3]
          rfl
      · rw [if_neg e2, if_neg e2]
        dsimp only [fnD_tell_32]
        by_cases e3 : ca = 0
        · rw [if_pos e3, if_pos e3]
          rfl
        · rw [if_neg e3, if_neg e3]
          rfl
    · rw [if_neg e1, if_neg e1]
      dsimp only [fnD_tell_22]
      by_cases e2 : ov = 0
      · rw [if_pos e2, if_pos e2]
        dsimp only [fnD_tell_32]
        by_cases e3 : ca = 0
        · rw [if_pos e3, if_pos e3]
          rfl
        · rw [if_neg e3, if_neg e3]
          rfl
      · rw [if_neg e2, if_neg e2]
        dsimp only [fnD_tell_32]
        by_cases e3 : ca = 0
        · rw [if_pos e3, if_pos e3]
          rfl
        · rw [if_neg e3, if_neg e3]
          rfl
  · rw [if_neg e0, if_neg e0]
    dsimp only [fnD_tell_13]
    by_cases e1 : y = 0
    · rw [if_pos e1, if_pos e1]
      dsimp only [fnD_tell_22]
      by_cases e2 : ov = 0
      · rw [if_pos e2, if_pos e2]
        dsimp only [fnD_tell_32]
        by_cases e3 : ca = 0
        · rw [if_pos e3, if_pos e3]
          rfl
        · rw [if_neg e3, if_neg e3]
          rfl
      · rw [if_neg e2, if_neg e2]
        dsimp only [fnD_tell_32]
        by_cases e3 : ca = 0
        · rw [if_pos e3, if_pos e3]
          rfl
        · rw [if_neg e3, if_neg e3]
          rfl
    · rw [if_neg e1, if_neg e1]
      dsimp only [fnD_tell_22]
      by_cases e2 : ov = 0
      · rw [if_pos e2, if_pos e2]
        dsimp only [fnD_tell_32]
        by_cases e3 : ca = 0
        · rw [if_pos e3, if_pos e3]
          rfl
        · rw [if_neg e3, if_neg e3]
          rfl
      · rw [if_neg e2, if_neg e2]
        dsimp only [fnD_tell_32]
        by_cases e3 : ca = 0
        · rw [if_pos e3, if_pos e3]
          rfl
        · rw [if_neg e3, if_neg e3]
          rfl
theorem T_p (y hi bi : Int32) {ov ca : Int32} (h1 : okb ov) (h2 : okb ca) : (((if y &&& hi = 0 then (0 : Int32) else 8) + (if y = 0 then 4 else 0)) + (if ov = 0 then 0 else 2)) + (if ca = 0 then 0 else 1) = pk (stw y hi ov ca bi) := by
  dsimp only [stw, pk, pk4]
  have key : ∀ p q : Int32, okb p → okb q → (((if p = 0 then (0 : Int32) else 8) + (if q = 0 then 0 else 4)) + (if ov = 0 then 0 else 2)) + (if ca = 0 then 0 else 1) = (((if p = 0 then (0 : Int32) else 8) ||| (if q = 0 then 0 else 4)) ||| (if ov = 0 then 0 else 2)) ||| (if ca = 0 then 0 else 1) := by
    intro p q hp hq
    rcases hp with rfl | rfl <;> rcases hq with rfl | rfl <;> rcases h1 with rfl | rfl <;> rcases h2 with rfl | rfl <;> decide
  have k1 := key (if y &&& hi = 0 then 0 else 1) (if y = 0 then 1 else 0) okb_if okb_if'
  rw [← k1]
  congr 3
  · by_cases e : y &&& hi = 0
    · rw [if_pos e, if_pos e, if_pos rfl]
    · rw [if_neg e, if_neg e, if_neg (by decide)]
  · by_cases e : y = 0
    · rw [if_pos e, if_pos e, if_neg (by decide)]
    · rw [if_neg e, if_neg e, if_pos rfl]
theorem T_b (wd g : Nat → Int32) (fl st : Int32) (tl : Int64 × Int32 × Int32) (y hi bi : Int32) {ov ca : Int32} (h1 : okb ov) (h2 : okb ca) : fnD_tell (wd, g, fl, st, tl) y hi ov ca = some ((), (wd, g, pk (stw y hi ov ca bi), st, tl)) := by
  rw [T_c, T_p y hi bi h1 h2]
theorem pk_c {n z v c bi hi : Int32} (h : okW (n, z, v, c, bi, hi)) : pk (n, z, v, c, bi, hi) &&& (1 : Int32) = c := by
  obtain ⟨h1, h2, h3, h4⟩ := h
  dsimp only at h1 h2 h3 h4
  show pk4 n z v c &&& (1 : Int32) = c
  rcases h1 with rfl | rfl <;> rcases h2 with rfl | rfl <;> rcases h3 with rfl | rfl <;> rcases h4 with rfl | rfl <;> decide
theorem if_01 {α : Type} {c : Int32} (h : okb c) (F : Int32 → α) : (if c = 0 then F 0 else F 1) = F c := by
  rcases h with rfl | rfl
  · rw [if_pos rfl]
  · rw [if_neg (by decide)]
theorem D_tw (wd g : Nat → Int32) (tl : Int32 × Int64 × Int32 × Int32) {n z v c b bi hi : Int32} (hk : okW (n, z, v, c, bi, hi)) (hd : wdt b bi hi) (k s d : Int32) : fnD_two (wd, g, pk (n, z, v, c, bi, hi), tl) k s d hi = fnD_two_22 (wd, g, pk (n, z, v, c, bi, hi), tl) k s d hi bi c := by
  dsimp only [fnD_two]
  rw [pk_c hk, wd_2 hd]
  exact if_01 hk.2.2.2 (fun q => fnD_two_22 (wd, g, pk (n, z, v, c, bi, hi), tl) k s d hi bi q)
theorem sim_diff (wd g : Nat → Int32) (tl : Int32 × Int64 × Int32 × Int32) {n z v c b bi hi : Int32} (hd : wdt b bi hi) (a d : Int32) :
    ∃ (x : Int32) (w' : sW), fnW_difference (n, z, v, c, bi, hi) a d = some (x, w') ∧ fnD_two_186 (wd, g, pk (n, z, v, c, bi, hi), tl) hi a d ((a - d) &&& bi) = some (x, (wd, g, pk w', tl)) ∧ vb b x ∧ okW w' ∧ w'.2.2.2.2 = (bi, hi) := by
  obtain ⟨st, al, tk, pd⟩ := tl
  dsimp only [fnW_difference, fnD_two_186]
  rw [wd_y hd]
  have key : ∀ ov, okb ov → ∃ (x : Int32) (w' : sW), fnW_difference_39 (n, z, v, c, bi, hi) a d (a - d) ov = some (x, w') ∧ fnD_two_222 (wd, g, pk (n, z, v, c, bi, hi), st, al, tk, pd) a d ((a - d) &&& bi) ov hi ((a - d) &&& bi) = some (x, (wd, g, pk w', st, al, tk, pd)) ∧ vb b x ∧ okW w' ∧ w'.2.2.2.2 = (bi, hi) := by
    intro ov ho
    dsimp only [fnW_difference_39, fnD_two_222]
    by_cases e : d ≤ a
    · rw [if_pos e, if_pos e]
      dsimp only [fnW_difference_55, fnD_two_234, fnD_two_251]
      rw [S_a n z v c bi hi (a - d) ho (Or.inl rfl), T_b wd g _ st (al, tk, pd) _ hi bi ho (Or.inl rfl)]
      exact ⟨_, _, rfl, rfl, wd_v hd _, stw_ok ho (Or.inl rfl), rfl⟩
    · rw [if_neg e, if_neg e]
      dsimp only [fnW_difference_55, fnD_two_234, fnD_two_251]
      rw [S_a n z v c bi hi (a - d) ho (Or.inr rfl), T_b wd g _ st (al, tk, pd) _ hi bi ho (Or.inr rfl)]
      exact ⟨_, _, rfl, rfl, wd_v hd _, stw_ok ho (Or.inr rfl), rfl⟩
  by_cases e1 : a &&& hi = d &&& hi
  · rw [if_pos e1, if_pos e1]
    exact key 0 (Or.inl rfl)
  · rw [if_neg e1, if_neg e1]
    by_cases e2 : (a - d) &&& hi = d &&& hi
    · rw [if_pos e2, if_pos e2]
      exact key 1 (Or.inr rfl)
    · rw [if_neg e2, if_neg e2]
      exact key 0 (Or.inl rfl)
theorem sim_logic (wd g : Nat → Int32) (st : Int32) (tl : Int64 × Int32 × Int32) {n z v c b bi hi : Int32} (hk : okW (n, z, v, c, bi, hi)) (hd : wdt b bi hi) {y : Int32} (hy : y &&& bi = y) :
    ∃ (x : Int32) (w' : sW), (fnW_logical (n, z, v, c, bi, hi) y).bind (fun r => some (r.1, r.2)) = some (x, w') ∧ (fnD_tell (wd, g, pk (n, z, v, c, bi, hi), st, tl) y hi (0 : Int32) c).bind (fun r => fnD_two_251 r.2 y) = some (x, (wd, g, pk w', st, tl)) ∧ vb b x ∧ okW w' ∧ w'.2.2.2.2 = (bi, hi) := by
  dsimp only [fnW_logical]
  rw [S_a n z v c bi hi y (Or.inl rfl) hk.2.2.2, T_b wd g _ st tl y hi bi (Or.inl rfl) hk.2.2.2, hy]
  refine ⟨_, _, rfl, rfl, ?_, stw_ok (Or.inl rfl) hk.2.2.2, rfl⟩
  rw [← hy]
  exact wd_v hd _
theorem sim_two (wd g : Nat → Int32) (tl : Int64 × Int32 × Int32) {n z v c b bi hi : Int32} (hk : okW (n, z, v, c, bi, hi)) (hd : wdt b bi hi) {s d : Int32} (hs : vb b s) (hdd : vb b d) {kA kD : Int32} (hkk : (kA = kD ∧ (kA = 1 ∨ kA = 2 ∨ kA = 3 ∨ kA = 4 ∨ kA = 5 ∨ kA = 6)) ∨ (kA = 14 ∧ kD = 7)) :
    ∃ (x : Int32) (w' : sW), fnW_ofTwo (n, z, v, c, bi, hi) kA s d = some (x, w') ∧ fnD_two (wd, g, pk (n, z, v, c, bi, hi), 0, tl) kD s d hi = some (x, (wd, g, pk w', 0, tl)) ∧ vb b x ∧ okW w' ∧ w'.2.2.2.2 = (bi, hi) := by
  rw [D_tw wd g (0, tl) hk hd]
  have ms := wd_m hd hs
  have md := wd_m hd hdd
  rcases hkk with ⟨rfl, rfl | rfl | rfl | rfl | rfl | rfl⟩ | ⟨rfl, rfl⟩
  · dsimp only [fnW_ofTwo, fnD_two_22]
    rw [if_pos rfl, if_neg (by decide)]
    dsimp only [fnD_two_34]
    rw [if_neg (by decide)]
    dsimp only [fnD_two_46]
    rw [if_pos rfl]
    dsimp only [fnD_two_115]
    rw [if_neg (by decide), if_neg (by decide), if_neg (by decide)]
    exact sim_logic wd g 0 tl hk hd ms
  · dsimp only [fnW_ofTwo, fnD_two_22]
    rw [if_neg (by decide), if_pos rfl, if_pos rfl]
    dsimp only [fnD_two_34]
    rw [if_pos rfl]
    dsimp only [fnD_two_46]
    rw [if_neg (by decide), if_neg (by decide), if_neg (by decide), if_neg (by decide), if_neg (by decide)]
    dsimp only [fnD_two_115]
    rw [if_neg (by decide), if_pos rfl]
    obtain ⟨x, w', h1, h2⟩ := sim_diff wd g (0, tl) (n := n) (z := z) (v := v) (c := c) hd s d
    rw [h1]
    exact ⟨x, w', rfl, h2⟩
  · dsimp only [fnW_ofTwo, fnD_two_22]
    rw [if_neg (by decide), if_neg (by decide), if_pos rfl, if_neg (by decide)]
    dsimp only [fnD_two_34]
    rw [if_neg (by decide)]
    dsimp only [fnD_two_46]
    rw [if_neg (by decide), if_pos rfl]
    dsimp only [fnD_two_115]
    rw [if_neg (by decide), if_neg (by decide), if_neg (by decide)]
    exact sim_logic wd g 0 tl hk hd (by rw [a_as, md])
  · dsimp only [fnW_ofTwo, fnD_two_22]
    rw [if_neg (by decide), if_neg (by decide), if_neg (by decide), if_pos rfl, if_neg (by decide)]
    dsimp only [fnD_two_34]
    rw [if_neg (by decide)]
    dsimp only [fnD_two_46]
    rw [if_neg (by decide), if_neg (by decide), if_pos rfl]
    dsimp only [fnD_two_115]
    rw [if_neg (by decide), if_neg (by decide), if_neg (by decide)]
    exact sim_logic wd g 0 tl hk hd (by rw [a_as, a_cm (s ^^^ (-1 : Int32)), ← a_as, md])
  · dsimp only [fnW_ofTwo, fnD_two_22]
    rw [if_neg (by decide), if_neg (by decide), if_neg (by decide), if_neg (by decide), if_pos rfl, if_neg (by decide)]
    dsimp only [fnD_two_34]
    rw [if_neg (by decide)]
    dsimp only [fnD_two_46]
    rw [if_neg (by decide), if_neg (by decide), if_neg (by decide), if_pos rfl]
    dsimp only [fnD_two_115]
    rw [if_neg (by decide), if_neg (by decide), if_neg (by decide)]
    exact sim_logic wd g 0 tl hk hd (by rw [a_or, ms, md])
  · dsimp only [fnW_ofTwo, fnD_two_22]
    rw [if_neg (by decide), if_neg (by decide), if_neg (by decide), if_neg (by decide), if_neg (by decide), if_pos rfl, if_neg (by decide)]
    dsimp only [fnD_two_34]
    rw [if_neg (by decide)]
    dsimp only [fnD_two_46]
    rw [if_neg (by decide), if_neg (by decide), if_neg (by decide), if_neg (by decide), if_pos rfl]
    dsimp only [fnD_two_115]
    rw [if_pos rfl, wd_y hd, Int32.add_comm d s]
    dsimp only [fnW_sum]
    obtain ⟨al, tk, pd⟩ := tl
    have key : ∀ ov, okb ov → ∃ (x : Int32) (w' : sW), (fnW_sum_39 (n, z, v, c, bi, hi) (s + d) ov).bind (fun r => some (r.1, r.2)) = some (x, w') ∧ fnD_two_156 (wd, g, pk (n, z, v, c, bi, hi), 0, al, tk, pd) s d bi ((s + d) &&& bi) ov hi ((s + d) &&& bi) = some (x, (wd, g, pk w', 0, al, tk, pd)) ∧ vb b x ∧ okW w' ∧ w'.2.2.2.2 = (bi, hi) := by
      intro ov ho
      dsimp only [fnW_sum_39, fnD_two_156]
      rw [Int32.add_comm d s]
      by_cases e : s + d ≤ bi
      · rw [if_pos e, if_pos e]
        dsimp only [fnW_sum_58, fnD_two_169, fnD_two_251]
        rw [S_a n z v c bi hi (s + d) ho (Or.inl rfl), T_b wd g _ 0 (al, tk, pd) _ hi bi ho (Or.inl rfl)]
        exact ⟨_, _, rfl, rfl, wd_v hd _, stw_ok ho (Or.inl rfl), rfl⟩
      · rw [if_neg e, if_neg e]
        dsimp only [fnW_sum_58, fnD_two_169, fnD_two_251]
        rw [S_a n z v c bi hi (s + d) ho (Or.inr rfl), T_b wd g _ 0 (al, tk, pd) _ hi bi ho (Or.inr rfl)]
        exact ⟨_, _, rfl, rfl, wd_v hd _, stw_ok ho (Or.inr rfl), rfl⟩
    by_cases e1 : s &&& hi = d &&& hi
    · rw [if_pos e1, if_pos e1]
      by_cases e2 : (s + d) &&& hi = s &&& hi
      · rw [if_pos e2, if_pos e2]
        exact key 0 (Or.inl rfl)
      · rw [if_neg e2, if_neg e2]
        exact key 1 (Or.inr rfl)
    · rw [if_neg e1, if_neg e1]
      exact key 0 (Or.inl rfl)
  · dsimp only [fnW_ofTwo, fnD_two_22]
    rw [if_neg (by decide), if_neg (by decide), if_neg (by decide), if_neg (by decide), if_neg (by decide), if_neg (by decide), if_neg (by decide)]
    dsimp only [fnD_two_34]
    rw [if_neg (by decide)]
    dsimp only [fnD_two_46]
    rw [if_neg (by decide), if_neg (by decide), if_neg (by decide), if_neg (by decide), if_neg (by decide)]
    dsimp only [fnD_two_115]
    rw [if_neg (by decide), if_neg (by decide), if_pos rfl]
    obtain ⟨x, w', h1, h2⟩ := sim_diff wd g (0, tl) (n := n) (z := z) (v := v) (c := c) hd d s
    rw [h1]
    exact ⟨x, w', rfl, h2⟩
