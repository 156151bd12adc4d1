/-! conditions of branches, flags one by one, the flags as a number -/
theorem if_bit {α : Type} {p c : Int32} (h : p = 0 ↔ c = 0) (hc : okb c) (F : Int32 → α) : (if p = 0 then F 0 else F 1) = F c := by
  rcases hc with rfl | rfl
  · rw [if_pos (h.mpr rfl)]
  · rw [if_neg (fun q => absurd (h.mp q) (by decide))]
theorem pk_b {n z v c : Int32} (h1 : okb n) (h2 : okb z) (h3 : okb v) (h4 : okb c) : (pk4 n z v c &&& (8 : Int32) = 0 ↔ n = 0) ∧ (pk4 n z v c &&& (4 : Int32) = 0 ↔ z = 0) ∧ (pk4 n z v c &&& (2 : Int32) = 0 ↔ v = 0) ∧ (pk4 n z v c &&& (1 : Int32) = 0 ↔ c = 0) := by
  rcases h1 with rfl | rfl <;> rcases h2 with rfl | rfl <;> rcases h3 with rfl | rfl <;> rcases h4 with rfl | rfl <;> decide
theorem D_it (wd g : Nat → Int32) (tl : Int32 × Int64 × Int32 × Int32) {n z v c bi hi : Int32} (hk : okW (n, z, v, c, bi, hi)) (k : Int32) : fnD_isTrue (wd, g, pk (n, z, v, c, bi, hi), tl) k = fnD_isTrue_61 (wd, g, pk (n, z, v, c, bi, hi), tl) k n z v c := by
  obtain ⟨h1, h2, h3, h4⟩ := hk
  dsimp only at h1 h2 h3 h4
  obtain ⟨b1, b2, b3, b4⟩ := pk_b h1 h2 h3 h4
  have b1 : pk (n, z, v, c, bi, hi) &&& (8 : Int32) = 0 ↔ n = 0 := b1
  have b2 : pk (n, z, v, c, bi, hi) &&& (4 : Int32) = 0 ↔ z = 0 := b2
  have b3 : pk (n, z, v, c, bi, hi) &&& (2 : Int32) = 0 ↔ v = 0 := b3
  have b4 : pk (n, z, v, c, bi, hi) &&& (1 : Int32) = 0 ↔ c = 0 := b4
  dsimp only [fnD_isTrue]
  rw [if_bit b1 h1 (fun q => fnD_isTrue_15 (wd, g, pk (n, z, v, c, bi, hi), tl) k q)]
  dsimp only [fnD_isTrue_15]
  rw [if_bit b2 h2 (fun q => fnD_isTrue_30 (wd, g, pk (n, z, v, c, bi, hi), tl) k n q)]
  dsimp only [fnD_isTrue_30]
  rw [if_bit b3 h3 (fun q => fnD_isTrue_45 (wd, g, pk (n, z, v, c, bi, hi), tl) k n z q)]
  dsimp only [fnD_isTrue_45]
  exact if_bit b4 h4 (fun q => fnD_isTrue_61 (wd, g, pk (n, z, v, c, bi, hi), tl) k n z v q)
set_option maxRecDepth 100000 in
set_option maxHeartbeats 4000000 in
theorem sim_true (u : sD) {n z v c : Int32} (bi hi : Int32) (h1 : okb n) (h2 : okb z) (h3 : okb v) (h4 : okb c) {k : Nat} (hk : k = 1 ∨ k = 2 ∨ k = 3 ∨ k = 4 ∨ k = 5 ∨ k = 6 ∨ k = 7 ∨ k = 128 ∨ k = 129 ∨ k = 130 ∨ k = 131 ∨ k = 132 ∨ k = 133 ∨ k = 134 ∨ k = 135) : ∃ x : Int32, okb x ∧ fnW_allows (n, z, v, c, bi, hi) (nI k) = some (x, (n, z, v, c, bi, hi)) ∧ fnD_isTrue_61 u (nI k) n z v c = some (x, u) := by
  rcases h1 with rfl | rfl <;> rcases h2 with rfl | rfl <;> rcases h3 with rfl | rfl <;> rcases h4 with rfl | rfl <;>
    rcases hk with rfl | rfl | rfl | rfl | rfl | rfl | rfl | rfl | rfl | rfl | rfl | rfl | rfl | rfl | rfl <;>
    first | exact ⟨1, Or.inr rfl, rfl, rfl⟩ | exact ⟨0, Or.inl rfl, rfl, rfl⟩
theorem W_pk {n z v c : Int32} (bi hi : Int32) : fnW_packed (n, z, v, c, bi, hi) = some (pk (n, z, v, c, bi, hi), (n, z, v, c, bi, hi)) := by
  dsimp only [fnW_packed, pk, pk4]
  by_cases e1 : n = 0
  · rw [if_pos e1, if_pos e1]
    dsimp only [fnW_packed_13]
    by_cases e2 : z = 0
    · rw [if_pos e2, if_pos e2]
      dsimp only [fnW_packed_25]
      by_cases e3 : v = 0
      · rw [if_pos e3, if_pos e3]
        dsimp only [fnW_packed_38]
        by_cases e4 : c = 0
        · rw [if_pos e4, if_pos e4]
          rfl
        · rw [if_neg e4, if_neg e4]
          rfl
      · rw [if_neg e3, if_neg e3]
        dsimp only [fnW_packed_38]
        by_cases e4 : c = 0
        · rw [if_pos e4, if_pos e4]
          rfl
        · rw [if_neg e4, if_neg e4]
          rfl
    · rw [if_neg e2, if_neg e2]
      dsimp only [fnW_packed_25]
      by_cases e3 : v = 0
      · rw [if_pos e3, if_pos e3]
        dsimp only [fnW_packed_38]
        by_cases e4 : c = 0
        · rw [if_pos e4, if_pos e4]
          rfl
        · rw [if_neg e4, if_neg e4]
          rfl
      · rw [if_neg e3, if_neg e3]
        dsimp only [fnW_packed_38]
        by_cases e4 : c = 0
        · rw [if_pos e4, if_pos e4]
          rfl
        · rw [if_neg e4, if_neg e4]
          rfl
  · rw [if_neg e1, if_neg e1]
    dsimp only [fnW_packed_13]
    by_cases e2 : z = 0
    · rw [if_pos e2, if_pos e2]
      dsimp only [fnW_packed_25]
      by_cases e3 : v = 0
      · rw [if_pos e3, if_pos e3]
        dsimp only [fnW_packed_38]
        by_cases e4 : c = 0
        · rw [if_pos e4, if_pos e4]
          rfl
        · rw [if_neg e4, if_neg e4]
          rfl
      · rw [if_neg e3, if_neg e3]
        dsimp only [fnW_packed_38]
        by_cases e4 : c = 0
        · rw [if_pos e4, if_pos e4]
          rfl
        · rw [if_neg e4, if_neg e4]
          rfl
    · rw [if_neg e2, if_neg e2]
      dsimp only [fnW_packed_25]
      by_cases e3 : v = 0
      · rw [if_pos e3, if_pos e3]
        dsimp only [fnW_packed_38]
        by_cases e4 : c = 0
        · rw [if_pos e4, if_pos e4]
          rfl
        · rw [if_neg e4, if_neg e4]
          rfl
      · rw [if_neg e3, if_neg e3]
        dsimp only [fnW_packed_38]
        by_cases e4 : c = 0
        · rw [if_pos e4, if_pos e4]
          rfl
        · rw [if_neg e4, if_neg e4]
          rfl
theorem okb_sel {c : Prop} [Decidable c] {x y : Int32} (hx : okb x) (hy : okb y) : okb (if c then x else y) := by split <;> assumption
theorem W_ch {n z v c a val : Int32} (bi hi : Int32) (h1 : okb n) (h2 : okb z) (h3 : okb v) (h4 : okb c) (hv : okb val) : fnW_change (n, z, v, c, bi, hi) a val = some ((), (if a &&& (8 : Int32) = 0 then n else val, if a &&& (4 : Int32) = 0 then z else val, if a &&& (2 : Int32) = 0 then v else val, if a &&& (1 : Int32) = 0 then c else val, bi, hi)) := by
  have e0 : fnW_change (n, z, v, c, bi, hi) a val = fnW_change_16 (n, z, v, c, bi, hi) a val (if a &&& (8 : Int32) = 0 then n else val) := by
    dsimp only [fnW_change]
    by_cases e : a &&& (8 : Int32) = 0
    · rw [if_pos e, if_pos e]
    · rw [if_neg e, if_neg e]
  have e1 : ∀ p, okb p → fnW_change_16 (n, z, v, c, bi, hi) a val p = fnW_change_34 (p, z, v, c, bi, hi) a val (if a &&& (4 : Int32) = 0 then z else val) := by
    intro p hp
    dsimp only [fnW_change_16]
    rw [if_pos (okb_bok hp)]
    by_cases e : a &&& (4 : Int32) = 0
    · rw [if_pos e, if_pos e]
    · rw [if_neg e, if_neg e]
  have e2 : ∀ p q, okb q → fnW_change_34 (p, z, v, c, bi, hi) a val q = fnW_change_52 (p, q, v, c, bi, hi) a val (if a &&& (2 : Int32) = 0 then v else val) := by
    intro p q hq
    dsimp only [fnW_change_34]
    rw [if_pos (okb_bok hq)]
    by_cases e : a &&& (2 : Int32) = 0
    · rw [if_pos e, if_pos e]
    · rw [if_neg e, if_neg e]
  have e3 : ∀ p q r, okb r → fnW_change_52 (p, q, v, c, bi, hi) a val r = fnW_change_70 (p, q, r, c, bi, hi) (if a &&& (1 : Int32) = 0 then c else val) := by
    intro p q r hr
    dsimp only [fnW_change_52]
    rw [if_pos (okb_bok hr)]
    by_cases e : a &&& (1 : Int32) = 0
    · rw [if_pos e, if_pos e]
    · rw [if_neg e, if_neg e]
  rw [e0, e1 _ (okb_sel h1 hv), e2 _ _ (okb_sel h2 hv), e3 _ _ _ (okb_sel h3 hv)]
  dsimp only [fnW_change_70]
  rw [if_pos (okb_bok (okb_sel h4 hv))]
theorem fl_eq {n z v c : Int32} (h1 : okb n) (h2 : okb z) (h3 : okb v) (h4 : okb c) : ∀ j, j < 32 → (if nI (160 + j) &&& (16 : Int32) = 0 then (pk4 n z v c &&& (nI (160 + j) ^^^ (-1 : Int32))) &&& (15 : Int32) else pk4 n z v c ||| (nI (160 + j) &&& (15 : Int32))) = pk4 (if (nI (160 + j) &&& (15 : Int32)) &&& (8 : Int32) = 0 then n else (if nI (160 + j) &&& (16 : Int32) = 0 then 0 else 1)) (if (nI (160 + j) &&& (15 : Int32)) &&& (4 : Int32) = 0 then z else (if nI (160 + j) &&& (16 : Int32) = 0 then 0 else 1)) (if (nI (160 + j) &&& (15 : Int32)) &&& (2 : Int32) = 0 then v else (if nI (160 + j) &&& (16 : Int32) = 0 then 0 else 1)) (if (nI (160 + j) &&& (15 : Int32)) &&& (1 : Int32) = 0 then c else (if nI (160 + j) &&& (16 : Int32) = 0 then 0 else 1)) := by
  rcases h1 with rfl | rfl <;> rcases h2 with rfl | rfl <;> rcases h3 with rfl | rfl <;> rcases h4 with rfl | rfl <;> decide +kernel
