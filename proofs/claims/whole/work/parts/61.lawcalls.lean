/-! the law's calls -/
theorem gVL {own C : String} {idx : Nat} {y : MethodName} {b : ByteArray} {L : Nat} {ret : Option FieldType} (h1 : Cond.methodLink own idx y ∈ wAll) (h2 : Cond.instanceMethod y ∈ wAll) (h3 : Cond.selects C y y ∈ wAll) (h4 : Cond.initialized C ∈ wAll) (h5 : Cond.code y b L ret ∈ wAll) : GoodIn lw_tbl (wsV own idx C y (Cond.code y b L ret :: wAll)) := fun w hw => ⟨by
  rcases List.mem_cons.mp ((gV (x := Cond.code y b L ret) h1 h2 h3 h4 h5) w hw).1 with rfl | h
  · exact wAll_tb _ h5
  · exact wAll_tb _ h, ((gV (x := Cond.code y b L ret) h1 h2 h3 h4 h5) w hw).2⟩
theorem gCL {y : MethodName} {b : ByteArray} {L : Nat} {ret : Option FieldType} (h5 : Cond.code y b L ret ∈ wAll) : GoodIn lw_tbl (Cond.code y b L ret :: wAll) := fun w hw => ⟨by
  rcases List.mem_cons.mp hw with rfl | h
  · exact wAll_tb _ h5
  · exact wAll_tb _ h, ((gC (x := Cond.code y b L ret) h5) w hw).2⟩
abbrev clL (o aw ar ak o2 aw2 ar2 : Nat) (kI : ClassId) (u : sA) (v : sD) : va_W := clA o aw ar ak kI u ++ clD o2 aw2 ar2 kI v
section KL
variable {p : Program} {l : Launch} {e : Env} {R : Room} {s : State} {m : MethodId} {args : Array Value} {below : List Frame} {meth : Method} {c : Code} {H : Heap} {locs : List Loc} {cells slots : Nat} {Q : State → Prop}
variable {pc : Nat} {ls : Array Slot} {rest st0 : List Value} {a : Array Value} {A : Nat → Prop} {D : va_G} {kI : ClassId} {o aw ar ak o2 aw2 ar2 : Nat} {u : sA} {v : sD}
theorem kLA_i {tg : Int32 × sA} (hr : va_Run p l e R s m args below meth c H locs cells slots 0 0 (F0 m pc ls st0) rest (va_Qi (fun (x : Int32) (w : sA) => x = tg.1 ∧ w = tg.2) (poG D kI (clA o aw ar ak kI) (va_A (clA o aw ar ak kI u) H.size)) (va_A (clA o aw ar ak kI u) H.size) a) (va_A (clA o aw ar ak kI u) H.size)) (hP : va_P D vwCl (clL o aw ar ak o2 aw2 ar2 kI u v) H) (hD : va_D A (clL o aw ar ak o2 aw2 ar2 kI u v)) (hS : va_S A s.heap H locs) (hA : ∀ q, s.heap.size ≤ q → A q)
    (kk : ∀ (H1 : Heap) (locs1 : List Loc), va_P D vwCl (clL o aw ar ak o2 aw2 ar2 kI tg.2 v) H1 → va_D A (clL o aw ar ak o2 aw2 ar2 kI tg.2 v) → va_S A s.heap H1 locs1 → W p l e R s m args below meth c H1 locs1 cells slots Q (F0 m (pc + 3) ls (.int tg.1 :: rest))) : W p l e R s m args below meth c H locs cells slots Q (F0 m pc ls st0) := by
  have hFc := va_free (wc := clA o aw ar ak kI u) hD hS hA [0, 1, 2, 3] rfl
  refine va_calli hr hS (fun q _ h => hFc q h) hFc (fun x w t H1 locs1 ht hvm hw hB hz hk hS1 => ?_)
  obtain ⟨rfl, rfl⟩ := hw
  obtain ⟨hP1, hK1, hD1⟩ := hB
  subst ht
  obtain ⟨hP2, hD2⟩ := va_join (wr := clD o2 aw2 ar2 kI v) (w1 := clA o aw ar ak kI tg.2) hP hD [0, 1, 2, 3] [4, 5, 6] rfl rfl (by decide) (by decide) hk hFc hP1 hD1
  exact kk _ _ (hP2.sub (ws' := clL o aw ar ak o2 aw2 ar2 kI tg.2 v) [3, 4, 5, 6, 0, 1, 2] rfl) (hD2.sub (ws' := clL o aw ar ak o2 aw2 ar2 kI tg.2 v) [3, 4, 5, 6, 0, 1, 2] (by decide) rfl) hS1
theorem kLD_i {tg : Int32 × sD} (hr : va_Run p l e R s m args below meth c H locs cells slots 0 0 (F0 m pc ls st0) rest (va_Qi (fun (x : Int32) (w : sD) => x = tg.1 ∧ w = tg.2) (poG D kI (clD o2 aw2 ar2 kI) (va_A (clD o2 aw2 ar2 kI v) H.size)) (va_A (clD o2 aw2 ar2 kI v) H.size) a) (va_A (clD o2 aw2 ar2 kI v) H.size)) (hP : va_P D vwCl (clL o aw ar ak o2 aw2 ar2 kI u v) H) (hD : va_D A (clL o aw ar ak o2 aw2 ar2 kI u v)) (hS : va_S A s.heap H locs) (hA : ∀ q, s.heap.size ≤ q → A q)
    (kk : ∀ (H1 : Heap) (locs1 : List Loc), va_P D vwCl (clL o aw ar ak o2 aw2 ar2 kI u tg.2) H1 → va_D A (clL o aw ar ak o2 aw2 ar2 kI u tg.2) → va_S A s.heap H1 locs1 → W p l e R s m args below meth c H1 locs1 cells slots Q (F0 m (pc + 3) ls (.int tg.1 :: rest))) : W p l e R s m args below meth c H locs cells slots Q (F0 m pc ls st0) := by
  have hFc := va_free (wc := clD o2 aw2 ar2 kI v) hD hS hA [4, 5, 6] rfl
  refine va_calli hr hS (fun q _ h => hFc q h) hFc (fun x w t H1 locs1 ht hvm hw hB hz hk hS1 => ?_)
  obtain ⟨rfl, rfl⟩ := hw
  obtain ⟨hP1, hK1, hD1⟩ := hB
  subst ht
  obtain ⟨hP2, hD2⟩ := va_join (wr := clA o aw ar ak kI u) (w1 := clD o2 aw2 ar2 kI tg.2) hP hD [4, 5, 6] [0, 1, 2, 3] rfl rfl (by decide) (by decide) hk hFc hP1 hD1
  exact kk _ _ hP2 hD2 hS1
theorem kLA_l {tg : Int64 × sA} (hr : va_Run p l e R s m args below meth c H locs cells slots 0 0 (F0 m pc ls st0) rest (va_Ql (fun (x : Int64) (w : sA) => x = tg.1 ∧ w = tg.2) (poG D kI (clA o aw ar ak kI) (va_A (clA o aw ar ak kI u) H.size)) (va_A (clA o aw ar ak kI u) H.size) a) (va_A (clA o aw ar ak kI u) H.size)) (hP : va_P D vwCl (clL o aw ar ak o2 aw2 ar2 kI u v) H) (hD : va_D A (clL o aw ar ak o2 aw2 ar2 kI u v)) (hS : va_S A s.heap H locs) (hA : ∀ q, s.heap.size ≤ q → A q)
    (kk : ∀ (H1 : Heap) (locs1 : List Loc), va_P D vwCl (clL o aw ar ak o2 aw2 ar2 kI tg.2 v) H1 → va_D A (clL o aw ar ak o2 aw2 ar2 kI tg.2 v) → va_S A s.heap H1 locs1 → W p l e R s m args below meth c H1 locs1 cells slots Q (F0 m (pc + 3) ls (.long tg.1 :: rest))) : W p l e R s m args below meth c H locs cells slots Q (F0 m pc ls st0) := by
  have hFc := va_free (wc := clA o aw ar ak kI u) hD hS hA [0, 1, 2, 3] rfl
  refine va_calll hr hS (fun q _ h => hFc q h) hFc (fun x w t H1 locs1 ht hvm hw hB hz hk hS1 => ?_)
  obtain ⟨rfl, rfl⟩ := hw
  obtain ⟨hP1, hK1, hD1⟩ := hB
  subst ht
  obtain ⟨hP2, hD2⟩ := va_join (wr := clD o2 aw2 ar2 kI v) (w1 := clA o aw ar ak kI tg.2) hP hD [0, 1, 2, 3] [4, 5, 6] rfl rfl (by decide) (by decide) hk hFc hP1 hD1
  exact kk _ _ (hP2.sub (ws' := clL o aw ar ak o2 aw2 ar2 kI tg.2 v) [3, 4, 5, 6, 0, 1, 2] rfl) (hD2.sub (ws' := clL o aw ar ak o2 aw2 ar2 kI tg.2 v) [3, 4, 5, 6, 0, 1, 2] (by decide) rfl) hS1
theorem kLD_l {tg : Int64 × sD} (hr : va_Run p l e R s m args below meth c H locs cells slots 0 0 (F0 m pc ls st0) rest (va_Ql (fun (x : Int64) (w : sD) => x = tg.1 ∧ w = tg.2) (poG D kI (clD o2 aw2 ar2 kI) (va_A (clD o2 aw2 ar2 kI v) H.size)) (va_A (clD o2 aw2 ar2 kI v) H.size) a) (va_A (clD o2 aw2 ar2 kI v) H.size)) (hP : va_P D vwCl (clL o aw ar ak o2 aw2 ar2 kI u v) H) (hD : va_D A (clL o aw ar ak o2 aw2 ar2 kI u v)) (hS : va_S A s.heap H locs) (hA : ∀ q, s.heap.size ≤ q → A q)
    (kk : ∀ (H1 : Heap) (locs1 : List Loc), va_P D vwCl (clL o aw ar ak o2 aw2 ar2 kI u tg.2) H1 → va_D A (clL o aw ar ak o2 aw2 ar2 kI u tg.2) → va_S A s.heap H1 locs1 → W p l e R s m args below meth c H1 locs1 cells slots Q (F0 m (pc + 3) ls (.long tg.1 :: rest))) : W p l e R s m args below meth c H locs cells slots Q (F0 m pc ls st0) := by
  have hFc := va_free (wc := clD o2 aw2 ar2 kI v) hD hS hA [4, 5, 6] rfl
  refine va_calll hr hS (fun q _ h => hFc q h) hFc (fun x w t H1 locs1 ht hvm hw hB hz hk hS1 => ?_)
  obtain ⟨rfl, rfl⟩ := hw
  obtain ⟨hP1, hK1, hD1⟩ := hB
  subst ht
  obtain ⟨hP2, hD2⟩ := va_join (wr := clA o aw ar ak kI u) (w1 := clD o2 aw2 ar2 kI tg.2) hP hD [4, 5, 6] [0, 1, 2, 3] rfl rfl (by decide) (by decide) hk hFc hP1 hD1
  exact kk _ _ hP2 hD2 hS1
end KL
theorem cmp_self (x : Int64) : lg_cmp x x = 0 := by
  unfold lg_cmp
  simp
theorem eq_of_cmp {x y : Int32} (h : ¬ x = y) (e : x = y) {P : Prop} : P := absurd e h
