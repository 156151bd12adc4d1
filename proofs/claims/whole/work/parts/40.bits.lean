/-! sixteen bits: what all 65536 words have in common is tried on all of them -/
def al16 : Nat → Nat → (Nat → Bool) → Bool
  | 0, lo, f => f lo
  | k + 1, lo, f => al16 k lo f && al16 k (lo + 2 ^ k) f
theorem al16_ok (f : Nat → Bool) : ∀ (k lo : Nat), al16 k lo f = true → ∀ n, lo ≤ n → n < lo + 2 ^ k → f n = true := by
  intro k
  induction k with
  | zero =>
    intro lo h n h1 h2
    have e : n = lo := by simp at h2; omega
    rw [e]
    exact h
  | succ k ih =>
    intro lo h n h1 h2
    unfold al16 at h
    rw [Bool.and_eq_true] at h
    by_cases hn : n < lo + 2 ^ k
    · exact ih lo h.1 n h1 hn
    · refine ih (lo + 2 ^ k) h.2 n (by omega) ?_
      rw [Nat.pow_succ] at h2
      omega
theorem all16 {P : Nat → Bool} (h : al16 16 0 P = true) {n : Nat} (hn : n < 65536) : P n = true := al16_ok P 16 0 h n (Nat.zero_le _) (by simpa using hn)
theorem all16p {P : Nat → Prop} [DecidablePred P] (h : al16 16 0 (fun n => decide (P n)) = true) {n : Nat} (hn : n < 65536) : P n := of_decide_eq_true (all16 h hn)
def rng (x : Int32) : Prop := ∃ n : Nat, n < 65536 ∧ x = nI n
theorem rng_all {P : Int32 → Prop} [DecidablePred P] (h : al16 16 0 (fun n => decide (P (nI n))) = true) {x : Int32} (hx : rng x) : P x := by
  obtain ⟨n, hn, rfl⟩ := hx
  exact all16p (P := fun n => P (nI n)) h hn
theorem rng_mask (x : Int32) : rng (x &&& 65535) := by
  obtain ⟨j, hj, e⟩ := pk_andE x (m := 65535) 16 (by decide)
  exact ⟨j, hj, e⟩
theorem rng_lit (n : Nat) (h : n < 65536) : rng (nI n) := ⟨n, h, rfl⟩
theorem rng_upd {f : Nat → Int32} {x : Int32} (hf : ∀ j, rng (f j)) (hx : rng x) (k : Nat) : ∀ j, rng (upd f k x j) := by
  intro j
  unfold upd
  split
  · exact hx
  · exact hf j
theorem q_odd {x : Int32} (h : rng x) : (x - x / 2 * 2 = 0) ↔ (x &&& 1 = 0) := rng_all (P := fun x => (x - x / 2 * 2 = 0) ↔ (x &&& 1 = 0)) (by decide +kernel) h
theorem q_half {x : Int32} (h : rng x) : x / 2 = x >>> (1 &&& 31) := rng_all (P := fun x => x / 2 = x >>> (1 &&& 31)) (by decide +kernel) h
theorem q_ix {x : Int32} (h : rng x) : x < 4096 → ixk (x >>> (1 &&& 31)) 2048 = true := rng_all (P := fun x => x < 4096 → ixk (x >>> (1 &&& 31)) 2048 = true) (by decide +kernel) h
