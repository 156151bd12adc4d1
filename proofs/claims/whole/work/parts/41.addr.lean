/-! where an operand lies: registers behind it, why it stops (0: it doesn't), the address -/
def EA (wd rg : Nat → Int32) (m r : Nat) (sz : Int32) : (Nat → Int32) × Int32 × Int32 :=
  if m = 1 then (rg, 0, rg r) else if m = 2 then (ru rg r sz, 0, rg r) else if m = 3 then (ru rg r 2, ecx (rg r), gw wd (rg r)) else if m = 4 then (ru rg r (-sz), 0, ru rg r (-sz) r) else if m = 5 then (ru rg r (-2), ecx (ru rg r (-2) r), gw wd (ru rg r (-2) r)) else if ecx (rg 7) = 0 then (if m = 6 then (ru rg 7 2, 0, (gw wd (rg 7) + ru rg 7 2 r) &&& (65535 : Int32)) else (ru rg 7 2, ecx ((gw wd (rg 7) + ru rg 7 2 r) &&& (65535 : Int32)), gw wd ((gw wd (rg 7) + ru rg 7 2 r) &&& (65535 : Int32)))) else (ru rg 7 2, ecx (rg 7), 0)
theorem gw_rng {wd : Nat → Int32} (hw : ∀ j, rng (wd j)) (a : Int32) : rng (gw wd a) := hw _
theorem EA_g {wd rg : Nat → Int32} (hg : ∀ j, rng (rg j)) (m r : Nat) (sz : Int32) : ∀ j, rng ((EA wd rg m r sz).1 j) := by
  unfold EA
  repeat' split
  all_goals first | exact hg | exact ru_rng hg _ _
theorem EA_a {wd rg : Nat → Int32} (hw : ∀ j, rng (wd j)) (hg : ∀ j, rng (rg j)) (m r : Nat) (sz : Int32) : rng (EA wd rg m r sz).2.2 := by
  unfold EA
  repeat' split
  all_goals first | exact hg _ | exact hw _ | exact ru_rng hg _ _ _ | exact rng_mask _ | exact rng_0
theorem EA_e (wd rg : Nat → Int32) (m r : Nat) (sz : Int32) : (EA wd rg m r sz).2.1 = 0 ∨ (EA wd rg m r sz).2.1 = 3 ∨ (EA wd rg m r sz).2.1 = 4 := by
  unfold EA
  repeat' split
  all_goals first | exact Or.inl rfl | exact ecx_or _
theorem A_fa (wd rg : Nat → Int32) (tl : Int64 × Int32 × Int32 × sW) (hw : ∀ j, rng (wd j)) (hg : ∀ j, rng (rg j)) {m r : Nat} (hm1 : 1 ≤ m) (hm : m < 8) (hr : r < 8) (sz : Int32) : fnA_findAddress (wd, rg, 0, tl) (nI m) (nI r) sz = some (if (EA wd rg m r sz).2.1 = 0 then (EA wd rg m r sz).2.2 else -1, (wd, (EA wd rg m r sz).1, (EA wd rg m r sz).2.1, tl)) := by
  rcases (show m = 1 ∨ m = 2 ∨ m = 3 ∨ m = 4 ∨ m = 5 ∨ m = 6 ∨ m = 7 by omega) with rfl | rfl | rfl | rfl | rfl | rfl | rfl
  · unfold fnA_findAddress
    rw [if_pos (show nI 1 = (1 : Int32) from rfl), if_pos (ix8 hr), cl8 hr]
    rfl
  · unfold fnA_findAddress
    rw [if_neg (show ¬ nI 2 = (1 : Int32) by decide), if_pos (show nI 2 = (2 : Int32) from rfl), A_up _ hr]
    rfl
  · unfold fnA_findAddress
    rw [if_neg (show ¬ nI 3 = (1 : Int32) by decide), if_neg (show ¬ nI 3 = (2 : Int32) by decide), if_pos (show nI 3 = (3 : Int32) from rfl), A_up _ hr]
    show (fnA_readWord (wd, ru rg r 2, 0, tl) (rg r)).bind (fun r9 => some (r9.1, r9.2)) = _
    rw [A_rw (wd, ru rg r 2, 0, tl) (hg r) rfl]
    rfl
  · unfold fnA_findAddress
    rw [if_neg (show ¬ nI 4 = (1 : Int32) by decide), if_neg (show ¬ nI 4 = (2 : Int32) by decide), if_neg (show ¬ nI 4 = (3 : Int32) by decide), if_pos (show nI 4 = (4 : Int32) from rfl), A_dn _ hr]
    rfl
  · unfold fnA_findAddress
    rw [if_neg (show ¬ nI 5 = (1 : Int32) by decide), if_neg (show ¬ nI 5 = (2 : Int32) by decide), if_neg (show ¬ nI 5 = (3 : Int32) by decide), if_neg (show ¬ nI 5 = (4 : Int32) by decide), if_pos (show nI 5 = (5 : Int32) from rfl), A_dn _ hr]
    show (fnA_readWord (wd, ru rg r (-2), 0, tl) (ru rg r (-2) r)).bind (fun r9 => some (r9.1, r9.2)) = _
    rw [A_rw (wd, ru rg r (-2), 0, tl) (ru_rng hg _ _ r) rfl]
    rfl
  · unfold fnA_findAddress
    rw [if_neg (show ¬ nI 6 = (1 : Int32) by decide), if_neg (show ¬ nI 6 = (2 : Int32) by decide), if_neg (show ¬ nI 6 = (3 : Int32) by decide), if_neg (show ¬ nI 6 = (4 : Int32) by decide), if_neg (show ¬ nI 6 = (5 : Int32) by decide)]
    show (fnA_stepUp (wd, rg, 0, tl) (nI 7) 2).bind _ = _
    rw [A_up _ (by decide)]
    show (fnA_readWord (wd, ru rg 7 2, 0, tl) (rg 7)).bind _ = _
    rw [A_rw (wd, ru rg 7 2, 0, tl) (hg 7) rfl]
    by_cases he : ecx (rg 7) = 0
    · have e1 : EA wd rg 6 r sz = (ru rg 7 2, 0, (gw wd (rg 7) + ru rg 7 2 r) &&& (65535 : Int32)) := by
        unfold EA
        rw [if_neg (by decide), if_neg (by decide), if_neg (by decide), if_neg (by decide), if_neg (by decide), if_pos he, if_pos (by decide)]
      rw [e1, Option.bind_some]
      simp only
      rw [if_pos he, if_neg (rng_ne (gw_rng hw _)), if_pos (ix8 hr), cl8 hr, if_pos (show nI 6 = (6 : Int32) from rfl), he]
      rfl
    · have e1 : EA wd rg 6 r sz = (ru rg 7 2, ecx (rg 7), 0) := by
        unfold EA
        rw [if_neg (by decide), if_neg (by decide), if_neg (by decide), if_neg (by decide), if_neg (by decide), if_neg he]
      rw [e1, Option.bind_some]
      simp only
      rw [if_neg he, if_pos rfl, if_neg he]
  · unfold fnA_findAddress
    rw [if_neg (show ¬ nI 7 = (1 : Int32) by decide), if_neg (show ¬ nI 7 = (2 : Int32) by decide), if_neg (show ¬ nI 7 = (3 : Int32) by decide), if_neg (show ¬ nI 7 = (4 : Int32) by decide), if_neg (show ¬ nI 7 = (5 : Int32) by decide)]
    show (fnA_stepUp (wd, rg, 0, tl) (nI 7) 2).bind _ = _
    rw [A_up _ (by decide)]
    show (fnA_readWord (wd, ru rg 7 2, 0, tl) (rg 7)).bind _ = _
    rw [A_rw (wd, ru rg 7 2, 0, tl) (hg 7) rfl]
    by_cases he : ecx (rg 7) = 0
    · have e1 : EA wd rg 7 r sz = (ru rg 7 2, ecx ((gw wd (rg 7) + ru rg 7 2 r) &&& (65535 : Int32)), gw wd ((gw wd (rg 7) + ru rg 7 2 r) &&& (65535 : Int32))) := by
        unfold EA
        rw [if_neg (by decide), if_neg (by decide), if_neg (by decide), if_neg (by decide), if_neg (by decide), if_pos he, if_neg (by decide)]
      rw [e1, Option.bind_some]
      simp only
      rw [if_pos he, if_neg (rng_ne (gw_rng hw _)), if_pos (ix8 hr), cl8 hr, if_neg (show ¬ nI 7 = (6 : Int32) by decide), he]
      rw [A_rw (wd, ru rg 7 2, 0, tl) (rng_mask _) rfl]
      rfl
    · have e1 : EA wd rg 7 r sz = (ru rg 7 2, ecx (rg 7), 0) := by
        unfold EA
        rw [if_neg (by decide), if_neg (by decide), if_neg (by decide), if_neg (by decide), if_neg (by decide), if_neg he]
      rw [e1, Option.bind_some]
      simp only
      rw [if_neg he, if_pos rfl, if_neg he]
theorem D_f1 (wd rg : Nat → Int32) (fl : Int32) (al : Int64) (tk pd st : Int32) {r : Nat} (hr : r < 8) : fnD_find_35 (wd, rg, fl, 0, al, tk, pd) (nI 1) (nI r) st = some ((), (wd, rg, fl, 0, al, tk + 1, rg r)) := by
  dsimp only [fnD_find_35, nm]
  rw [if_neg (by decide), if_pos (by decide)]
  dsimp only [fnD_find_90]
  rw [if_pos (ix8 hr), cl8 hr, if_neg (by decide)]
  dsimp only [fnD_find_119]
  rw [if_neg (by decide)]
  dsimp only [fnD_find_145]
  rw [if_neg (by decide)]
  dsimp only [fnD_find_174]
  rw [if_neg (by decide), if_neg (by decide), if_neg (by decide)]
  rfl
theorem D_f2 (wd rg : Nat → Int32) (fl : Int32) (al : Int64) (tk pd st : Int32) {r : Nat} (hr : r < 8) : fnD_find_35 (wd, rg, fl, 0, al, tk, pd) (nI 2) (nI r) st = some ((), (wd, ru rg r st, fl, 0, al, tk + 1, rg r)) := by
  dsimp only [fnD_find_35, nm]
  rw [if_neg (by decide), if_neg (by decide), if_pos (by decide)]
  dsimp only [fnD_find_90]
  rw [if_pos (ix8 hr), cl8 hr, if_pos (by decide), D_add _ hr, Option.bind_some]
  dsimp only [fnD_find_119]
  rw [if_neg (by decide)]
  dsimp only [fnD_find_145]
  rw [if_neg (by decide)]
  dsimp only [fnD_find_174]
  rw [if_neg (by decide), if_neg (by decide), if_neg (by decide)]
  rfl
theorem D_f3 (wd rg : Nat → Int32) (fl : Int32) (al : Int64) (tk pd st : Int32) (hg : ∀ j, rng (rg j)) {r : Nat} (hr : r < 8) : fnD_find_35 (wd, rg, fl, 0, al, tk, pd) (nI 3) (nI r) st = some ((), (wd, ru rg r st, fl, ecx (rg r), al, tk + 1 + 1, if ecx (rg r) = 0 then gw wd (rg r) else 0)) := by
  dsimp only [fnD_find_35, nm]
  rw [if_neg (by decide), if_neg (by decide), if_pos (by decide)]
  dsimp only [fnD_find_90]
  rw [if_pos (ix8 hr), cl8 hr, if_pos (by decide), D_add _ hr, Option.bind_some]
  dsimp only [fnD_find_119]
  rw [if_neg (by decide)]
  dsimp only [fnD_find_145]
  rw [if_neg (by decide)]
  dsimp only [fnD_find_174]
  rw [if_pos (by decide)]
  dsimp only [fnD_find_190]
  show (fnD_word (wd, ru rg r st, fl, 0, al, tk + 1 + 1, rg r) (rg r)).bind _ = _
  rw [D_wd (wd, ru rg r st, fl, 0, al, tk + 1 + 1, rg r) (hg r) rfl]
  rfl
theorem D_f4 (wd rg : Nat → Int32) (fl : Int32) (al : Int64) (tk pd st : Int32) {r : Nat} (hr : r < 8) : fnD_find_35 (wd, rg, fl, 0, al, tk, pd) (nI 4) (nI r) st = some ((), (wd, ru rg r (-st), fl, 0, al, tk + 2, ru rg r (-st) r)) := by
  dsimp only [fnD_find_35, nm]
  rw [if_neg (by decide), if_neg (by decide), if_neg (by decide), if_pos (by decide)]
  dsimp only [fnD_find_90]
  rw [if_pos (ix8 hr), cl8 hr, if_neg (by decide)]
  dsimp only [fnD_find_119]
  rw [if_pos (by decide), D_add _ hr, Option.bind_some, if_pos (ix8 hr), cl8 hr]
  dsimp only [fnD_find_145]
  rw [if_neg (by decide)]
  dsimp only [fnD_find_174]
  rw [if_neg (by decide), if_neg (by decide), if_neg (by decide)]
  rfl
theorem D_f5 (wd rg : Nat → Int32) (fl : Int32) (al : Int64) (tk pd st : Int32) (hg : ∀ j, rng (rg j)) {r : Nat} (hr : r < 8) : fnD_find_35 (wd, rg, fl, 0, al, tk, pd) (nI 5) (nI r) st = some ((), (wd, ru rg r (-st), fl, ecx (ru rg r (-st) r), al, tk + 2 + 1, if ecx (ru rg r (-st) r) = 0 then gw wd (ru rg r (-st) r) else 0)) := by
  dsimp only [fnD_find_35, nm]
  rw [if_neg (by decide), if_neg (by decide), if_neg (by decide), if_pos (by decide)]
  dsimp only [fnD_find_90]
  rw [if_pos (ix8 hr), cl8 hr, if_neg (by decide)]
  dsimp only [fnD_find_119]
  rw [if_pos (by decide), D_add _ hr, Option.bind_some, if_pos (ix8 hr), cl8 hr]
  dsimp only [fnD_find_145]
  rw [if_neg (by decide)]
  dsimp only [fnD_find_174]
  rw [if_neg (by decide), if_pos (by decide)]
  dsimp only [fnD_find_190]
  show (fnD_word (wd, ru rg r (-st), fl, 0, al, tk + 2 + 1, ru rg r (-st) r) (ru rg r (-st) r)).bind _ = _
  rw [D_wd (wd, ru rg r (-st), fl, 0, al, tk + 2 + 1, ru rg r (-st) r) (ru_rng hg _ _ r) rfl]
  rfl
theorem D_f67 (wd rg : Nat → Int32) (fl : Int32) (al : Int64) (tk pd st : Int32) (hg : ∀ j, rng (rg j)) {m r : Nat} (hm : m = 6 ∨ m = 7) (hr : r < 8) : fnD_find_35 (wd, rg, fl, 0, al, tk, pd) (nI m) (nI r) st = fnD_find_174 (wd, ru rg 7 2, fl, ecx (rg 7), al, tk + 3, ((if ecx (rg 7) = 0 then gw wd (rg 7) else 0) + ru rg 7 2 r) &&& (65535 : Int32)) (nI m) := by
  rcases hm with rfl | rfl
  · dsimp only [fnD_find_35, nm]
    rw [if_neg (by decide), if_neg (by decide), if_neg (by decide), if_neg (by decide)]
    dsimp only [fnD_find_90]
    rw [if_pos (ix8 hr), cl8 hr, if_neg (by decide)]
    dsimp only [fnD_find_119]
    rw [if_neg (by decide)]
    dsimp only [fnD_find_145]
    rw [if_pos (by decide), D_fo _ (hg 7) rfl, Option.bind_some, if_pos (ix8 hr), cl8 hr]
  · dsimp only [fnD_find_35, nm]
    rw [if_neg (by decide), if_neg (by decide), if_neg (by decide), if_neg (by decide)]
    dsimp only [fnD_find_90]
    rw [if_pos (ix8 hr), cl8 hr, if_neg (by decide)]
    dsimp only [fnD_find_119]
    rw [if_neg (by decide)]
    dsimp only [fnD_find_145]
    rw [if_pos (by decide), D_fo _ (hg 7) rfl, Option.bind_some, if_pos (ix8 hr), cl8 hr]
theorem D_f6 (v : sD) : fnD_find_174 v (nI 6) = some ((), v) := by
  dsimp only [fnD_find_174]
  rw [if_neg (by decide), if_neg (by decide), if_neg (by decide)]
  rfl
theorem D_f7 (v : sD) : fnD_find_174 v (nI 7) = fnD_find_190 v := by
  dsimp only [fnD_find_174]
  rw [if_neg (by decide), if_neg (by decide), if_pos (by decide)]
