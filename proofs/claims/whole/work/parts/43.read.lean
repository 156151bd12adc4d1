/-! the operand's value, and the place for the result -/
theorem q_m16 {x : Int32} (h : rng x) : x &&& (65535 : Int32) = x := by
  obtain ⟨n, hn, rfl⟩ := h
  rw [pk_andN (m := 65535) (by omega) 16 (by decide), Nat.mod_eq_of_lt (by simpa using hn)]
theorem neg1 : ∀ r, r < 8 → (-1 : Int32) - ((-1 : Int32) - nI r) = nI r := by decide +kernel
theorem neg2 : ∀ r, r < 8 → ¬ (0 : Int32) ≤ (-1 : Int32) - nI r := by decide +kernel
def PR (pl pd : Int32) (r : Nat) (b : Int32) : Prop := (pl = (-1 : Int32) ∧ pd = (-1 : Int32) - nI r) ∨ (pl = pd ∧ rng pd ∧ pd < (4096 : Int32) ∧ (b = 0 → pd &&& (1 : Int32) = 0))
def vb (b x : Int32) : Prop := ∃ n : Nat, n < (if b = 0 then 65536 else 256) ∧ x = nI n
theorem vb_0 {x : Int32} (h : rng x) : vb 0 x := h
theorem vb_1 (x : Int32) : vb 1 (x &&& (255 : Int32)) := by
  obtain ⟨j, hj, e⟩ := pk_andE x (m := 255) 8 (by decide)
  exact ⟨j, hj, e⟩
theorem D_rds (wd g : Nat → Int32) (fl er : Int32) (al : Int64) (tk pd b : Int32) (he : er = 3 ∨ er = 4) : fnD_read (wd, g, fl, er, al, tk, pd) b = some (0, (wd, g, fl, er, al, tk + 1, pd)) := by
  dsimp only [fnD_read]
  rw [if_neg (by rcases he with rfl | rfl <;> decide)]
theorem D_rdm (wd g : Nat → Int32) (fl : Int32) (al : Int64) (tk pd : Int32) (hp : rng pd) : fnD_read (wd, g, fl, 0, al, tk, pd) 0 = some (if ecx pd = 0 then gw wd pd else 0, (wd, g, fl, ecx pd, al, tk + 1, pd)) := by
  dsimp only [fnD_read]
  rw [if_pos (by decide), if_pos (rng_nn hp), if_pos rfl, D_wd _ hp rfl]
  rfl
theorem D_rdb (wd g : Nat → Int32) (fl : Int32) (al : Int64) (tk pd : Int32) (hp : rng pd) : fnD_read (wd, g, fl, 0, al, tk, pd) 1 = some (if eco pd = 0 then (gw wd pd >>> (((pd &&& (1 : Int32)) * (8 : Int32)) &&& 31)) &&& (255 : Int32) else 0, (wd, g, fl, eco pd, al, tk + 1, pd)) := by
  dsimp only [fnD_read]
  rw [if_pos (by decide), if_pos (rng_nn hp), if_neg (by decide), D_oc _ hp rfl]
  rfl
theorem D_rdr (wd g : Nat → Int32) (hg : ∀ j, rng (g j)) (fl : Int32) (al : Int64) (tk : Int32) {r : Nat} (hr : r < 8) {b : Int32} (hb : b = 0 ∨ b = 1) : fnD_read (wd, g, fl, 0, al, tk, (-1 : Int32) - nI r) b = some (if b = 0 then g r else g r &&& (255 : Int32), (wd, g, fl, 0, al, tk + 1, (-1 : Int32) - nI r)) := by
  dsimp only [fnD_read]
  rw [if_pos (by decide), if_neg (neg2 r hr), neg1 r hr, if_pos (ix8 hr), cl8 hr]
  rcases hb with rfl | rfl
  · rw [if_pos rfl, if_pos rfl]
    dsimp only [fnD_read_49]
    rw [q_m16 (hg r)]
  · rw [if_neg (by decide), if_neg (by decide)]
    rfl
theorem ecx_0 {a : Int32} (h : ecx a = 0) : a < (4096 : Int32) ∧ a &&& (1 : Int32) = 0 := by
  unfold ecx at h
  split at h
  · rename_i h1
    split at h
    · rename_i h2
      exact ⟨h2, h1⟩
    · exact absurd h (by decide)
  · exact absurd h (by decide)
theorem eco_0 {a : Int32} (h : eco a = 0) : a < (4096 : Int32) := by
  unfold eco at h
  split at h
  · rename_i h1
    exact h1
  · exact absurd h (by decide)
/-- how far the count of cycles has come -/
def J (a : Nat) (sp0 sp : Int32) : Prop := ∃ j : Nat, j ≤ a ∧ sp = sp0 + nI j
theorem J_0 (sp : Int32) : J 0 sp sp := ⟨0, Nat.le_refl _, by rw [show nI 0 = (0 : Int32) from rfl, Int32.add_zero]⟩
theorem J_add {a : Nat} {sp0 sp : Int32} (h : J a sp0 sp) (k : Nat) : J (a + k) sp0 (sp + nI k) := by
  obtain ⟨j, hj, rfl⟩ := h
  exact ⟨j + k, by omega, by rw [Int32.add_assoc, nI_add]⟩
theorem J_le {a b : Nat} {sp0 sp : Int32} (h : J a sp0 sp) (hab : a ≤ b) : J b sp0 sp := by
  obtain ⟨j, hj, e⟩ := h
  exact ⟨j, by omega, e⟩
theorem J_tr {a b : Nat} {x y z : Int32} (h1 : J a x y) (h2 : J b y z) : J (a + b) x z := by
  obtain ⟨j, hj, rfl⟩ := h2
  exact J_le (J_add h1 j) (by omega)
theorem mcT_j {m : Nat} (h : m < 8) (sp : Int32) : J 5 sp (sp + mcT m) := by
  rcases (show m = 0 ∨ m = 1 ∨ m = 2 ∨ m = 3 ∨ m = 4 ∨ m = 5 ∨ m = 6 ∨ m = 7 by omega) with rfl | rfl | rfl | rfl | rfl | rfl | rfl | rfl
  · exact ⟨1, by decide, rfl⟩
  · exact ⟨2, by decide, rfl⟩
  · exact ⟨2, by decide, rfl⟩
  · exact ⟨3, by decide, rfl⟩
  · exact ⟨3, by decide, rfl⟩
  · exact ⟨4, by decide, rfl⟩
  · exact ⟨4, by decide, rfl⟩
  · exact ⟨5, by decide, rfl⟩
theorem sim_op (wd rg : Nat → Int32) (hw : ∀ j, rng (wd j)) (hg : ∀ j, rng (rg j)) (al : Int64) (sp pl : Int32) (wk : sW) (fl pd : Int32) {dd : Nat} (hdd : dd < 64) {b : Int32} (hb : b = 0 ∨ b = 1) :
    ∃ (g : Nat → Int32) (er x sp' pl' tk' pd' : Int32) (v1 : sD), fnA_readOperand (wd, rg, 0, al, sp, pl, wk) (nI dd) b = some (if er = 0 then x else -1, (wd, g, er, al, sp', pl', wk)) ∧ fnD_find (wd, rg, fl, 0, al, sp, pd) (nI dd) b = some ((), v1) ∧ fnD_read v1 b = some (if er = 0 then x else 0, (wd, g, fl, er, al, tk', pd')) ∧ (∀ j, rng (g j)) ∧ (er = 0 ∨ er = 3 ∨ er = 4) ∧ (er = 0 → vb b x ∧ sp' = tk' ∧ PR pl' pd' (dd % 8) b ∧ J 5 sp sp') := by
  by_cases h8 : dd < 8
  · refine ⟨rg, 0, if b = 0 then rg dd else rg dd &&& (255 : Int32), sp + 1, -1, sp + 1, (-1 : Int32) - nI dd, (wd, rg, fl, 0, al, sp, (-1 : Int32) - nI dd), ?_, ?_, ?_, hg, Or.inl rfl, fun _ => ⟨?_, rfl, Or.inl ⟨rfl, by rw [Nat.mod_eq_of_lt h8]⟩, J_le (J_add (J_0 sp) 1) (by decide)⟩⟩
    · rw [A_ro0 wd rg al sp pl wk h8 hb, if_pos rfl]
    · rw [D_fd _ hdd hb, show dd / 8 = 0 by omega, Nat.mod_eq_of_lt h8]
      dsimp only [fnD_find_35, nm]
      rw [if_pos (show nI 0 = (0 : Int32) from rfl)]
    · rw [D_rdr wd rg hg fl al sp h8 hb, if_pos rfl]
    · rcases hb with rfl | rfl
      · rw [if_pos rfl]
        exact vb_0 (hg _)
      · rw [if_neg (by decide)]
        exact vb_1 _
  · have h8 : 8 ≤ dd := by omega
    obtain ⟨tk', pd', hf, hi⟩ := D_adr wd rg hw hg fl al sp pd h8 hdd hb
    have ha := EA_a hw hg (dd / 8) (dd % 8) (szb b (dd % 8))
    have hgg := EA_g (wd := wd) hg (dd / 8) (dd % 8) (szb b (dd % 8))
    have hee := EA_e wd rg (dd / 8) (dd % 8) (szb b (dd % 8))
    have hA := A_ro80 wd rg hw hg al (sp + mcT (dd / 8)) pl wk (m := dd / 8) (r := dd % 8) (by omega) (by omega) (by omega) (b := b) (szb b (dd % 8))
    rw [← A_ro wd rg al sp pl wk h8 hdd hb] at hA
    generalize EA wd rg (dd / 8) (dd % 8) (szb b (dd % 8)) = E at ha hgg hee hf hi hA
    obtain ⟨g, er, a⟩ := E
    dsimp only at ha hgg hee hf hi hA
    by_cases he : er = 0
    · subst he
      obtain ⟨rfl, ht⟩ := hi rfl
      rw [if_pos rfl] at hA
      rcases hb with rfl | rfl
      · rw [if_pos rfl] at hA
        refine ⟨g, ecx pd', gw wd pd', sp + mcT (dd / 8), pd', tk' + 1, pd', _, hA, hf, D_rdm wd g fl al tk' pd' ha, hgg, ecx_or _, fun h => ⟨vb_0 (gw_rng hw _), ht.symm, Or.inr ⟨rfl, ha, (ecx_0 h).1, fun _ => (ecx_0 h).2⟩, mcT_j (by omega) sp⟩⟩
      · rw [if_neg (by decide)] at hA
        refine ⟨g, eco pd', _, sp + mcT (dd / 8), pd', tk' + 1, pd', _, hA, hf, D_rdb wd g fl al tk' pd' ha, hgg, eco_or _, fun h => ⟨vb_1 _, ht.symm, Or.inr ⟨rfl, ha, eco_0 h, fun q => absurd q (by decide)⟩, mcT_j (by omega) sp⟩⟩
    · rw [if_neg he] at hA
      have he2 : er = 3 ∨ er = 4 := hee.resolve_left he
      refine ⟨g, er, 0, sp + mcT (dd / 8), -1, tk' + 1, pd', _, ?_, hf, ?_, hgg, hee, fun h => absurd h he⟩
      · rw [if_neg he]
        exact hA
      · rw [if_neg he]
        exact D_rds wd g fl er al tk' pd' b he2
