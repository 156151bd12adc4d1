/-! an operand is read: the class and the reference go alike -/
theorem d_m {dd : Nat} (h : dd < 64) : nI dd >>> ((3 : Int32) &&& 31) = nI (dd / 8) := pk_shrN (by omega) _ 3 (by decide)
theorem d_m7 {dd : Nat} (h : dd < 64) : (nI dd >>> ((3 : Int32) &&& 31)) &&& (7 : Int32) = nI (dd / 8) := by
  rw [d_m h, pk_andN (m := 7) (by omega) 3 (by decide)]
  congr 1
  omega
theorem d_r {dd : Nat} : nI dd &&& (7 : Int32) = nI (dd % 8) := by
  rw [nI, pk_and (Int32.ofNat dd) (m := 7) 3 (by decide)]
  congr 1
  show (BitVec.ofNat 32 dd).toNat % 8 = dd % 8
  rw [BitVec.toNat_ofNat]
  omega
theorem z_eq {a b : Nat} (ha : a < 65536) (hb : b < 65536) : nI a = nI b ↔ a = b := nI_eq (by omega) (by omega)
theorem D_fd (v : sD) {dd : Nat} (hdd : dd < 64) {b : Int32} (hb : b = 0 ∨ b = 1) : fnD_find v (nI dd) b = fnD_find_35 v (nI (dd / 8)) (nI (dd % 8)) (if b = 0 then 2 else if dd / 8 % 2 = 0 ∧ dd % 8 < 6 then 1 else 2) := by
  unfold fnD_find
  rw [d_m7 hdd, d_r]
  rcases hb with rfl | rfl
  · rw [if_pos rfl, if_pos rfl]
    rfl
  · rw [if_neg (show ¬ (1 : Int32) = 0 by decide), if_neg (show ¬ (1 : Int32) = 0 by decide), q_odd (rng_nI (by omega)), pk_andN (m := 1) (by omega) 1 (by decide)]
    by_cases h1 : dd / 8 % 2 = 0
    · rw [if_pos (show nI (dd / 8 % 2 ^ 1) = 0 by rw [show dd / 8 % 2 ^ 1 = 0 from h1]; rfl)]
      by_cases h2 : dd % 8 < 6
      · rw [if_neg (show ¬ (6 : Int32) ≤ nI (dd % 8) from nI_ge (a := dd % 8) (b := 6) h2 (by omega)), if_pos ⟨h1, h2⟩]
      · rw [if_pos (show (6 : Int32) ≤ nI (dd % 8) from nI_le (a := 6) (b := dd % 8) (by omega) (by omega)), if_neg (fun q => h2 q.2)]
        rfl
    · rw [if_neg (show ¬ nI (dd / 8 % 2 ^ 1) = 0 from fun q => h1 ((z_eq (a := dd / 8 % 2 ^ 1) (b := 0) (by omega) (by omega)).mp q)), if_neg (fun q => h1 q.1)]
      rfl
theorem A_ro0 (wd rg : Nat → Int32) (al : Int64) (sp pl : Int32) (wk : sW) {dd : Nat} (hdd : dd < 8) {b : Int32} (hb : b = 0 ∨ b = 1) : fnA_readOperand (wd, rg, 0, al, sp, pl, wk) (nI dd) b = some (if b = 0 then rg dd else rg dd &&& (255 : Int32), (wd, rg, 0, al, sp + 1, -1, wk)) := by
  dsimp only [fnA_readOperand]
  rw [d_m (by omega), d_r, show dd / 8 = 0 by omega, show dd % 8 = dd by omega, if_pos (by decide), if_pos (show nI 0 = 0 from rfl), cl8 hdd]
  rcases hb with rfl | rfl
  · rw [if_pos rfl, if_pos rfl, if_pos (ix8 hdd)]
    rfl
  · rw [if_neg (show ¬ (1 : Int32) = 0 by decide), if_neg (show ¬ (1 : Int32) = 0 by decide), if_pos (ix8 hdd)]
    rfl
theorem A_ro80 (wd rg : Nat → Int32) (hw : ∀ j, rng (wd j)) (hg : ∀ j, rng (rg j)) (al : Int64) (sp pl : Int32) (wk : sW) {m r : Nat} (hm1 : 1 ≤ m) (hm : m < 8) (hr : r < 8) {b : Int32} (sz : Int32) : fnA_readOperand_80 (wd, rg, 0, al, sp, pl, wk) b sz (nI r) (nI m) = if (EA wd rg m r sz).2.1 = 0 then (if b = 0 then some (if ecx (EA wd rg m r sz).2.2 = 0 then gw wd (EA wd rg m r sz).2.2 else -1, (wd, (EA wd rg m r sz).1, ecx (EA wd rg m r sz).2.2, al, sp, (EA wd rg m r sz).2.2, wk)) else some (if eco (EA wd rg m r sz).2.2 = 0 then (gw wd (EA wd rg m r sz).2.2 >>> ((((EA wd rg m r sz).2.2 &&& (1 : Int32)) * (8 : Int32)) &&& 31)) &&& (255 : Int32) else -1, (wd, (EA wd rg m r sz).1, eco (EA wd rg m r sz).2.2, al, sp, (EA wd rg m r sz).2.2, wk))) else some (-1, (wd, (EA wd rg m r sz).1, (EA wd rg m r sz).2.1, al, sp, -1, wk)) := by
  dsimp only [fnA_readOperand_80]
  have ha := EA_a hw hg m r sz
  have hgg := EA_g (wd := wd) hg m r sz
  rw [A_fa wd rg (al, sp, pl, wk) hw hg hm1 hm hr sz, Option.bind_some]
  generalize EA wd rg m r sz = E at ha hgg ⊢
  obtain ⟨g, er, x⟩ := E
  dsimp only at ha hgg ⊢
  by_cases he : er = 0
  · subst he
    rw [if_pos rfl, if_neg (rng_ne ha)]
    by_cases h0 : b = 0
    · rw [if_pos h0, if_pos rfl, if_pos h0, A_rw (wd, g, 0, al, sp, x, wk) ha rfl]
      rfl
    · rw [if_neg h0, if_pos rfl, if_neg h0, A_rb (wd, g, 0, al, sp, x, wk) ha rfl]
      rfl
  · rw [if_neg he, if_pos rfl, if_neg he]
def szb (b : Int32) (r : Nat) : Int32 := if b = 0 then 2 else if r < 6 then 1 else 2
theorem A_ro (wd rg : Nat → Int32) (al : Int64) (sp pl : Int32) (wk : sW) {dd : Nat} (h8 : 8 ≤ dd) (hdd : dd < 64) {b : Int32} (hb : b = 0 ∨ b = 1) : fnA_readOperand (wd, rg, 0, al, sp, pl, wk) (nI dd) b = fnA_readOperand_80 (wd, rg, 0, al, sp + mcT (dd / 8), pl, wk) b (szb b (dd % 8)) (nI (dd % 8)) (nI (dd / 8)) := by
  dsimp only [fnA_readOperand]
  rw [d_m hdd, d_r, if_pos (ix8 (by omega)), if_neg (show ¬ nI (dd / 8) = 0 from fun q => by have := (z_eq (a := dd / 8) (b := 0) (by omega) (by omega)).mp q; omega), cl8 (by omega)]
  unfold szb
  rcases hb with rfl | rfl
  · rw [if_pos rfl, if_pos rfl]
    rfl
  · rw [if_neg (show ¬ (1 : Int32) = 0 by decide), if_neg (show ¬ (1 : Int32) = 0 by decide)]
    by_cases h2 : dd % 8 < 6
    · rw [if_neg (show ¬ (6 : Int32) ≤ nI (dd % 8) from nI_ge (a := dd % 8) (b := 6) h2 (by omega)), if_pos h2]
    · rw [if_pos (show (6 : Int32) ≤ nI (dd % 8) from nI_le (a := 6) (b := dd % 8) (by omega) (by omega)), if_neg h2]
      rfl
/-- the reference's way to an address: what it is where it doesn't stop -/
theorem D_adr (wd rg : Nat → Int32) (hw : ∀ j, rng (wd j)) (hg : ∀ j, rng (rg j)) (fl : Int32) (al : Int64) (tk pd : Int32) {dd : Nat} (h8 : 8 ≤ dd) (hdd : dd < 64) {b : Int32} (hb : b = 0 ∨ b = 1) : ∃ tk' pd', fnD_find (wd, rg, fl, 0, al, tk, pd) (nI dd) b = some ((), (wd, (EA wd rg (dd / 8) (dd % 8) (szb b (dd % 8))).1, fl, (EA wd rg (dd / 8) (dd % 8) (szb b (dd % 8))).2.1, al, tk', pd')) ∧ ((EA wd rg (dd / 8) (dd % 8) (szb b (dd % 8))).2.1 = 0 → pd' = (EA wd rg (dd / 8) (dd % 8) (szb b (dd % 8))).2.2 ∧ tk' + 1 = tk + mcT (dd / 8)) := by
  rw [D_fd _ hdd hb]
  have hr : dd % 8 < 8 := Nat.mod_lt _ (by decide)
  have hsz : szb b (dd % 8) = if b = 0 then 2 else if dd % 8 < 6 then 1 else 2 := rfl
  generalize dd % 8 = r at hr hsz ⊢
  rcases (show dd / 8 = 1 ∨ dd / 8 = 2 ∨ dd / 8 = 3 ∨ dd / 8 = 4 ∨ dd / 8 = 5 ∨ dd / 8 = 6 ∨ dd / 8 = 7 by omega) with e | e | e | e | e | e | e
  · rw [e, D_f1 wd rg fl al tk pd _ hr]
    exact ⟨_, _, rfl, fun _ => ⟨rfl, Int32.add_assoc tk 1 1⟩⟩
  · rw [e, D_f2 wd rg fl al tk pd _ hr]
    have e2 : (if b = 0 then (2 : Int32) else if 2 % 2 = 0 ∧ r < 6 then 1 else 2) = szb b r := by
      rw [hsz]
      simp
    rw [e2]
    exact ⟨_, _, rfl, fun _ => ⟨rfl, Int32.add_assoc tk 1 1⟩⟩
  · rw [e, D_f3 wd rg fl al tk pd _ hg hr]
    have e2 : (if b = 0 then (2 : Int32) else if 3 % 2 = 0 ∧ r < 6 then 1 else 2) = 2 := by simp
    rw [e2]
    refine ⟨_, _, rfl, fun h => ⟨if_pos h, ?_⟩⟩
    rw [Int32.add_assoc, Int32.add_assoc]
    rfl
  · rw [e, D_f4 wd rg fl al tk pd _ hr]
    have e2 : (if b = 0 then (2 : Int32) else if 4 % 2 = 0 ∧ r < 6 then 1 else 2) = szb b r := by
      rw [hsz]
      simp
    rw [e2]
    exact ⟨_, _, rfl, fun _ => ⟨rfl, Int32.add_assoc tk 2 1⟩⟩
  · rw [e, D_f5 wd rg fl al tk pd _ hg hr]
    have e2 : (if b = 0 then (2 : Int32) else if 5 % 2 = 0 ∧ r < 6 then 1 else 2) = 2 := by simp
    rw [e2]
    refine ⟨_, _, rfl, fun h => ⟨if_pos h, ?_⟩⟩
    rw [Int32.add_assoc, Int32.add_assoc]
    rfl
  · rw [e, D_f67 wd rg fl al tk pd _ hg (Or.inl rfl) hr, D_f6]
    by_cases he : ecx (rg 7) = 0
    · have e1 : EA wd rg 6 r (szb b r) = (ru rg 7 2, 0, (gw wd (rg 7) + ru rg 7 2 r) &&& (65535 : Int32)) := by
        unfold EA
        rw [if_neg (by decide), if_neg (by decide), if_neg (by decide), if_neg (by decide), if_neg (by decide), if_pos he, if_pos rfl]
      rw [e1, he, if_pos rfl]
      exact ⟨_, _, rfl, fun _ => ⟨rfl, Int32.add_assoc tk 3 1⟩⟩
    · have e1 : EA wd rg 6 r (szb b r) = (ru rg 7 2, ecx (rg 7), 0) := by
        unfold EA
        rw [if_neg (by decide), if_neg (by decide), if_neg (by decide), if_neg (by decide), if_neg (by decide), if_neg he]
      rw [e1]
      exact ⟨_, _, rfl, fun h => absurd h he⟩
  · rw [e, D_f67 wd rg fl al tk pd _ hg (Or.inr rfl) hr, D_f7]
    by_cases he : ecx (rg 7) = 0
    · have e1 : EA wd rg 7 r (szb b r) = (ru rg 7 2, ecx ((gw wd (rg 7) + ru rg 7 2 r) &&& (65535 : Int32)), gw wd ((gw wd (rg 7) + ru rg 7 2 r) &&& (65535 : Int32))) := by
        unfold EA
        rw [if_neg (by decide), if_neg (by decide), if_neg (by decide), if_neg (by decide), if_neg (by decide), if_pos he, if_neg (by decide)]
      rw [e1, he, if_pos rfl]
      dsimp only [fnD_find_190]
      rw [D_wd _ (rng_mask _) rfl, Option.bind_some]
      refine ⟨_, _, rfl, fun h => ⟨if_pos h, ?_⟩⟩
      dsimp only
      rw [Int32.add_assoc, Int32.add_assoc]
      rfl
    · have e1 : EA wd rg 7 r (szb b r) = (ru rg 7 2, ecx (rg 7), 0) := by
        unfold EA
        rw [if_neg (by decide), if_neg (by decide), if_neg (by decide), if_neg (by decide), if_neg (by decide), if_neg he]
      rw [e1]
      dsimp only [fnD_find_190]
      rw [D_stop _ _ (by dsimp only; rcases ecx_or (rg 7) with q | q | q <;> rw [q] <;> first | exact absurd q he | decide), Option.bind_some]
      exact ⟨_, _, rfl, fun h => absurd h he⟩
