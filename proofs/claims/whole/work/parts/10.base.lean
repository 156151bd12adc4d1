/-! states, cells, starts and ends; the calls' rows -/
abbrev sW : Type := Int32 × Int32 × Int32 × Int32 × Int32 × Int32
abbrev sA : Type := (Nat → Int32) × (Nat → Int32) × Int32 × Int64 × Int32 × Int32 × sW
abbrev sD : Type := (Nat → Int32) × (Nat → Int32) × Int32 × Int32 × Int64 × Int32 × Int32
abbrev clW (k : Nat) (w : sW) : va_W := [(k, .inr (0, [.int w.1, .int w.2.1, .int w.2.2.1, .int w.2.2.2.1, .int w.2.2.2.2.1, .int w.2.2.2.2.2]))]
abbrev clA (o aw ar ak : Nat) (kI : ClassId) (u : sA) : va_W := [(o, .inr (1, [.ref aw, .ref ar, .ref ak, .int u.2.2.1, .long u.2.2.2.1, .int u.2.2.2.2.1, .int u.2.2.2.2.2.1])), (aw, .inl (kI, 2048, .inl u.1)), (ar, .inl (kI, 8, .inl u.2.1)), (ak, .inr (0, [.int u.2.2.2.2.2.2.1, .int u.2.2.2.2.2.2.2.1, .int u.2.2.2.2.2.2.2.2.1, .int u.2.2.2.2.2.2.2.2.2.1, .int u.2.2.2.2.2.2.2.2.2.2.1, .int u.2.2.2.2.2.2.2.2.2.2.2]))]
abbrev clD (o aw ar : Nat) (kI : ClassId) (u : sD) : va_W := [(o, .inr (2, [.ref aw, .ref ar, .int u.2.2.1, .int u.2.2.2.1, .long u.2.2.2.2.1, .int u.2.2.2.2.2.1, .int u.2.2.2.2.2.2])), (aw, .inl (kI, 2048, .inl u.1)), (ar, .inl (kI, 8, .inl u.2.1))]
abbrev tyI (kI : ClassId) : List (ClassId × FieldType) := [(kI, .int)]
def mcT (j : Nat) : Int32 := match j with
  | 0 => 1
  | 1 => 2
  | 2 => 2
  | 3 => 3
  | 4 => 3
  | 5 => 4
  | 6 => 4
  | _ => 5
def nwA : List Cond := [.methodLinkNest RX1 18 yX0_init "MicroMill", .methodLinkNest RX1 45 yX0_packed "MicroMill", .methodLinkNest RX1 108 yX0_takeWidth "MicroMill", .methodLinkNest RX1 112 yX0_ofTwo "MicroMill", .methodLinkNest RX1 124 yX0_ofShift "MicroMill", .methodLinkNest RX1 127 yX0_ofOne "MicroMill", .methodLinkNest RX1 130 yX0_allows "MicroMill", .methodLinkNest RX1 139 yX0_change "MicroMill"]
theorem nwA_tb : ∀ w ∈ nwA, w.onTables = true := by decide +kernel
theorem nwA_warm {s U : State} (hW : s.WarmedH U.vm) (h : ∀ w ∈ nwA, va_Nw w s) : ∀ w ∈ nwA, va_Nw w U := by
  intro w hw
  have h1 := h w hw
  simp only [nwA, List.mem_cons, List.not_mem_nil, or_false] at hw
  rcases hw with rfl | rfl | rfl | rfl | rfl | rfl | rfl | rfl <;> exact va_Nw.warmM hW h1
def pzA (tb : Nat) (A : Nat → Prop) (U : State) : Prop := va_Z RX1 "MODE_CYCLES" "[I" (.ref tb) A U U.heap ∧ va_T .int tb 8 (fun j => .int (mcT j)) A U U.heap ∧ ∀ w ∈ nwA, va_Nw w U
theorem pzA_calling {tb : Nat} {A : Nat → Prop} {U : State} {g : JFrame} {mk : MethodId} {a : Array Value} (h : pzA tb A U) : pzA tb A (U.calling g mk a) :=
  ⟨va_Z.moved (u := U) (U := U.calling g mk a) (Vm.Alike.refl U.vm) h.1, va_T.moved (u := U) (U := U.calling g mk a) (Vm.Alike.refl U.vm) h.2.1, fun w hw => va_Nw.same (nwA_tb w hw) (u := U) (U := U.calling g mk a) rfl (h.2.2 w hw)⟩
theorem pzA_to {tb : Nat} {A B : Nat → Prop} {s U : State} {H : Heap} {locs : List Loc} (hZ : pzA tb A s) (hS : va_S A s.heap H locs) (hU : U.heap = H) (hW : s.WarmedH U.vm) (hB : ∀ q, B q → A q) : pzA tb B U := by
  subst hU
  exact ⟨(va_Z.moved hW.alike (hZ.1.kept hS.2.1)).narrow hB, (va_T.moved hW.alike (hZ.2.1.kept hS.2.1)).narrow hB, nwA_warm hW hZ.2.2⟩
/-- a method's start over a world, and its end -/
def prG {S : Type} (D : va_G) (kI : ClassId) (cl : S → va_W) (sz : Nat) (u : S) (U : State) : Prop := U.heap.size = sz ∧ va_P D vwCl (cl u) U.heap ∧ va_K D vwCl (tyI kI) U ∧ va_D (fun _ => True) (cl u)
def prA (D : va_G) (kI : ClassId) (tb o aw ar ak sz : Nat) (u : sA) (U : State) : Prop := U.heap.size = sz ∧ va_P D vwCl (clA o aw ar ak kI u) U.heap ∧ va_K D vwCl (tyI kI) U ∧ va_D (fun _ => True) (clA o aw ar ak kI u) ∧ pzA tb (va_A (clA o aw ar ak kI u) sz) U
def prS (sz : Nat) (U : State) : Prop := U.heap.size = sz
def poG {S : Type} (D : va_G) (kI : ClassId) (cl : S → va_W) (A : Nat → Prop) (v : S) (t : State) : Prop := va_P D vwCl (cl v) t.heap ∧ va_K D vwCl (tyI kI) t ∧ va_D A (cl v)
def poS (_ : Unit) (_ : State) : Prop := True
theorem va_freeSelf {A : Nat → Prop} {ws : va_W} {H0 H : Heap} {locs : List Loc} (hD : va_D A ws) (hS : va_S A H0 H locs) (hA : ∀ q, H0.size ≤ q → A q) : ∀ q, va_A ws H.size q → A q := by
  intro q h
  rcases h with ⟨k, e, h⟩ | h
  · exact hD.2 k _ h
  · exact hA q (Nat.le_trans hS.1 h)
theorem preA {D : va_G} {kI : ClassId} {tb o aw ar ak : Nat} {u : sA} {A : Nat → Prop} {s : State} {H : Heap} {locs : List Loc} (hK : va_K D vwCl (tyI kI) s) (hP : va_P D vwCl (clA o aw ar ak kI u) H) (hD : va_D A (clA o aw ar ak kI u)) (hS : va_S A s.heap H locs) (hA : ∀ q, s.heap.size ≤ q → A q) (hZ : pzA tb A s) (As : List Value) : PreV s H RX1 o (va_Pc (.ref o :: As) (prA D kI tb o aw ar ak H.size u)) As :=
  ⟨fun a U g mk q => ⟨q.1, q.2.1, q.2.2.1, va_K.moved (u := U) (U := U.calling g mk a) (Vm.Alike.refl U.vm) q.2.2.2.1, q.2.2.2.2.1, pzA_calling q.2.2.2.2.2⟩,
   va_recv hK hP (q := (RX1, TX1, 7)) (q0 := 0) (ci := 1) rfl rfl,
   fun U hU hW => ⟨rfl, by rw [hU], by rw [hU]; exact hP, va_K.moved hW.alike hK, hD.weaken (fun _ _ _ _ => trivial), pzA_to hZ hS hU hW (va_freeSelf hD hS hA)⟩⟩
theorem preG {S : Type} {D : va_G} {kI : ClassId} {cl : S → va_W} {o : Nat} {C : String} {T : u_T} {N ci : Nat} {fs : List Value} {u : S} {s : State} {H : Heap} (hK : va_K D vwCl (tyI kI) s) (hP : va_P D vwCl (cl u) H) (hD : va_D (fun _ => True) (cl u)) (hc : vwCl[ci]? = some (C, T, N)) (h0 : (cl u)[0]? = some (o, .inr (ci, fs))) (As : List Value) : PreV s H C o (va_Pc (.ref o :: As) (prG D kI cl H.size u)) As :=
  ⟨fun a U g mk q => ⟨q.1, q.2.1, q.2.2.1, va_K.moved (u := U) (U := U.calling g mk a) (Vm.Alike.refl U.vm) q.2.2.2.1, q.2.2.2.2⟩,
   va_recv hK hP (q := (C, T, N)) (q0 := 0) (ci := ci) hc h0,
   fun U hU hW => ⟨rfl, by rw [hU], by rw [hU]; exact hP, va_K.moved hW.alike hK, hD⟩⟩
theorem preSt {s : State} {H : Heap} (As : List Value) : PreS s H (va_Pc As (prS H.size)) As :=
  ⟨fun _ _ _ _ q => q, fun U hU _ => ⟨rfl, by rw [← hU]; rfl⟩⟩
/-- a contract, with room and goal named -/
theorem mOfW {l : Launch} {y : MethodName} {ws ws' : List Cond} {rm : Room} {Pc : Array Value → State → Prop} {Qc : Array Value → State → Outcome → State → Prop} {mc ms : Nat} {free : Addr → Prop} {cc : ByteArray} {maxL : Nat} {ret : Option FieldType}
    (hy : plainName y.cls = true) (hw : ws = Cond.code y cc maxL ret :: ws')
    (body : ∀ p e s m args below meth c s₁ (Q : State → Prop) (R : Room), Q = MQ below Qc args s mc ms free → R = rm → BodyLoose p l y (headSpec ws rm) cc maxL ret e s m args below meth c s₁ → c.maxLocals = maxL → Pc args s →
      W p l e R s m args below meth c s.heap [] 0 0 Q (entryFrame m args maxL)) : Met l y ws rm Pc Qc mc ms free :=
  Met.ofW hy hw (fun p e s m args below meth c s₁ B hml hP => body p e s m args below meth c s₁ _ _ rfl rfl B hml hP)
theorem pr1 {α β : Type} {a : α} {b : β} {t : α × β} (h : (a, b) = t) : a = t.1 := by rw [← h]
theorem pr2 {α β : Type} {a : α} {b : β} {t : α × β} (h : (a, b) = t) : b = t.2 := by rw [← h]
def nm {α β : Type} (x : α) (k : α → β) : β := k x
theorem nm_eq {α β : Type} {x z : α} {k : α → β} {t : β} (e : z = x) (h : nm x k = t) : k z = t := by rw [e]; exact h
theorem ob_some {α β : Type} {r : Option α} {k : α → Option β} {t : β} (h : r.bind k = some t) : ∃ x, r = some x ∧ k x = some t := by
  cases r with
  | none => cases h
  | some x => exact ⟨x, rfl, h⟩
theorem oi_some {α : Type} {b : Bool} {a : Option α} {t : α} (h : (if b = true then a else none) = some t) : b = true ∧ a = some t := by
  by_cases hb : b = true
  · rw [if_pos hb] at h; exact ⟨hb, h⟩
  · rw [if_neg hb] at h; cases h
def ixk (i : Int32) (n : Nat) : Bool := !(decide (i < 0) || decide (n ≤ i.toNatClampNeg))
theorem ixk_in {i : Int32} {n : Nat} (h : ixk i n = true) : vp_in i n := by
  intro q
  unfold ixk at h
  rcases q with q | q
  · simp [q] at h
  · simp [q] at h
theorem ixk_of {i : Int32} {n : Nat} (h : vp_in i n) : ixk i n = true := by
  unfold vp_in at h
  unfold ixk
  simp only [Bool.not_eq_true', Bool.or_eq_false_iff, decide_eq_false_iff_not]
  exact ⟨fun q => h (Or.inl q), fun q => h (Or.inr q)⟩
def bok (x : Int32) : Bool := x == 0 || x == 1
theorem bok_or {x : Int32} (h : bok x = true) : x = 0 ∨ x = 1 := by
  unfold bok at h
  simpa using h
theorem bok_n {x : Int32} (h : bok x = true) : narrow .boolean (.int x) = .int x := by
  rcases bok_or h with rfl | rfl <;> rfl
theorem bok_f {x : Int32} (h : bok x = true) : fits .boolean (.int x) = true := by
  rcases bok_or h with rfl | rfl <;> rfl
theorem ne_toInt {x k : Int32} {a : Int} (h : ¬ x = k) (hk : k.toInt = a) : x.toInt ≠ a := fun q => h (Int32.toInt_inj.mp (q.trans hk.symm))
section KC
variable {p : Program} {l : Launch} {e : Env} {R : Room} {s : State} {m : MethodId} {args : Array Value} {below : List Frame} {meth : Method} {c : Code} {H : Heap} {locs : List Loc} {Q : State → Prop}
variable {pc : Nat} {ls : Array Slot} {rest st0 : List Value} {a : Array Value} {A : Nat → Prop} {D : va_G} {kI : ClassId}
/-- a call on the caller's own world -/
theorem kG_i {S : Type} {cl : S → va_W} {u : S} {tg : Int32 × S} (hr : va_Run p l e R s m args below meth c H locs 0 0 0 0 (F0 m pc ls st0) rest (va_Qi (fun (x : Int32) (v : S) => x = tg.1 ∧ v = tg.2) (poG D kI cl (va_A (cl u) H.size)) (va_A (cl u) H.size) a) (va_A (cl u) H.size)) (hD : va_D A (cl u)) (hS : va_S A s.heap H locs) (hA : ∀ q, s.heap.size ≤ q → A q)
    (kk : ∀ (H1 : Heap) (locs1 : List Loc), va_P D vwCl (cl tg.2) H1 → va_D A (cl tg.2) → va_S A s.heap H1 locs1 → W p l e R s m args below meth c H1 locs1 0 0 Q (F0 m (pc + 3) ls (.int tg.1 :: rest))) : W p l e R s m args below meth c H locs 0 0 Q (F0 m pc ls st0) := by
  have hFc := va_freeSelf hD hS hA
  refine va_calli hr hS (fun q _ h => hFc q h) hFc (fun x v t H1 locs1 ht hvm hw hB hz hk hS1 => ?_)
  obtain ⟨rfl, rfl⟩ := hw
  obtain ⟨hP1, hK1, hD1⟩ := hB
  subst ht
  exact kk _ _ hP1 (hD1.weaken (fun _ q _ h => hFc q.1 h)) hS1
theorem kG_v {S : Type} {cl : S → va_W} {u : S} {tg : Unit × S} (hr : va_Run p l e R s m args below meth c H locs 0 0 0 0 (F0 m pc ls st0) rest (va_Qv (fun (v : S) => v = tg.2) (poG D kI cl (va_A (cl u) H.size)) (va_A (cl u) H.size) a) (va_A (cl u) H.size)) (hD : va_D A (cl u)) (hS : va_S A s.heap H locs) (hA : ∀ q, s.heap.size ≤ q → A q)
    (kk : ∀ (H1 : Heap) (locs1 : List Loc), va_P D vwCl (cl tg.2) H1 → va_D A (cl tg.2) → va_S A s.heap H1 locs1 → W p l e R s m args below meth c H1 locs1 0 0 Q (F0 m (pc + 3) ls rest)) : W p l e R s m args below meth c H locs 0 0 Q (F0 m pc ls st0) := by
  have hFc := va_freeSelf hD hS hA
  refine va_callv hr hS (fun q _ h => hFc q h) hFc (fun v t H1 locs1 ht hvm hw hB hz hk hS1 => ?_)
  subst hw
  obtain ⟨hP1, hK1, hD1⟩ := hB
  subst ht
  exact kk _ _ hP1 (hD1.weaken (fun _ q _ h => hFc q.1 h)) hS1
/-- a call of the Work's methods out of MicroMill -/
theorem kW_i {o aw ar ak : Nat} {u : sA} {tg : Int32 × sW} (hr : va_Run p l e R s m args below meth c H locs 0 0 0 0 (F0 m pc ls st0) rest (va_Qi (fun (x : Int32) (v : sW) => x = tg.1 ∧ v = tg.2) (poG D kI (clW ak) (va_A (clW ak u.2.2.2.2.2.2) H.size)) (va_A (clW ak u.2.2.2.2.2.2) H.size) a) (va_A (clW ak u.2.2.2.2.2.2) H.size)) (hP : va_P D vwCl (clA o aw ar ak kI u) H) (hD : va_D A (clA o aw ar ak kI u)) (hS : va_S A s.heap H locs) (hA : ∀ q, s.heap.size ≤ q → A q)
    (kk : ∀ (H1 : Heap) (locs1 : List Loc), va_P D vwCl (clA o aw ar ak kI (u.1, u.2.1, u.2.2.1, u.2.2.2.1, u.2.2.2.2.1, u.2.2.2.2.2.1, tg.2)) H1 → va_D A (clA o aw ar ak kI (u.1, u.2.1, u.2.2.1, u.2.2.2.1, u.2.2.2.2.1, u.2.2.2.2.2.1, tg.2)) → va_S A s.heap H1 locs1 → W p l e R s m args below meth c H1 locs1 0 0 Q (F0 m (pc + 3) ls (.int tg.1 :: rest))) : W p l e R s m args below meth c H locs 0 0 Q (F0 m pc ls st0) := by
  have hFc := va_free (wc := clW ak u.2.2.2.2.2.2) hD hS hA [3] rfl
  refine va_calli hr hS (fun q _ h => hFc q h) hFc (fun x v t H1 locs1 ht hvm hw hB hz hk hS1 => ?_)
  obtain ⟨rfl, rfl⟩ := hw
  obtain ⟨hP1, hK1, hD1⟩ := hB
  subst ht
  obtain ⟨hP2, hD2⟩ := va_join (wr := [(o, .inr (1, [.ref aw, .ref ar, .ref ak, .int u.2.2.1, .long u.2.2.2.1, .int u.2.2.2.2.1, .int u.2.2.2.2.2.1])), (aw, .inl (kI, 2048, .inl u.1)), (ar, .inl (kI, 8, .inl u.2.1))]) (w1 := clW ak tg.2) hP hD [3] [0, 1, 2] rfl rfl (by decide) (by decide) hk hFc hP1 hD1
  exact kk _ _ hP2 hD2 hS1
theorem kW_v {o aw ar ak : Nat} {u : sA} {tg : Unit × sW} (hr : va_Run p l e R s m args below meth c H locs 0 0 0 0 (F0 m pc ls st0) rest (va_Qv (fun (v : sW) => v = tg.2) (poG D kI (clW ak) (va_A (clW ak u.2.2.2.2.2.2) H.size)) (va_A (clW ak u.2.2.2.2.2.2) H.size) a) (va_A (clW ak u.2.2.2.2.2.2) H.size)) (hP : va_P D vwCl (clA o aw ar ak kI u) H) (hD : va_D A (clA o aw ar ak kI u)) (hS : va_S A s.heap H locs) (hA : ∀ q, s.heap.size ≤ q → A q)
    (kk : ∀ (H1 : Heap) (locs1 : List Loc), va_P D vwCl (clA o aw ar ak kI (u.1, u.2.1, u.2.2.1, u.2.2.2.1, u.2.2.2.2.1, u.2.2.2.2.2.1, tg.2)) H1 → va_D A (clA o aw ar ak kI (u.1, u.2.1, u.2.2.1, u.2.2.2.1, u.2.2.2.2.1, u.2.2.2.2.2.1, tg.2)) → va_S A s.heap H1 locs1 → W p l e R s m args below meth c H1 locs1 0 0 Q (F0 m (pc + 3) ls rest)) : W p l e R s m args below meth c H locs 0 0 Q (F0 m pc ls st0) := by
  have hFc := va_free (wc := clW ak u.2.2.2.2.2.2) hD hS hA [3] rfl
  refine va_callv hr hS (fun q _ h => hFc q h) hFc (fun v t H1 locs1 ht hvm hw hB hz hk hS1 => ?_)
  subst hw
  obtain ⟨hP1, hK1, hD1⟩ := hB
  subst ht
  obtain ⟨hP2, hD2⟩ := va_join (wr := [(o, .inr (1, [.ref aw, .ref ar, .ref ak, .int u.2.2.1, .long u.2.2.2.1, .int u.2.2.2.2.1, .int u.2.2.2.2.2.1])), (aw, .inl (kI, 2048, .inl u.1)), (ar, .inl (kI, 8, .inl u.2.1))]) (w1 := clW ak tg.2) hP hD [3] [0, 1, 2] rfl rfl (by decide) (by decide) hk hFc hP1 hD1
  exact kk _ _ hP2 hD2 hS1
/-- a static call that touches nothing -/
theorem kS_i {ws : va_W} {tg : Int32 × Unit} (hr : va_Run p l e R s m args below meth c H locs 0 0 0 0 (F0 m pc ls st0) rest (va_Qi (fun (x : Int32) (v : Unit) => x = tg.1 ∧ v = tg.2) poS (va_A [] H.size) a) (va_A [] H.size)) (hP : va_P D vwCl ws H) (hS : va_S A s.heap H locs) (hA : ∀ q, s.heap.size ≤ q → A q)
    (kk : ∀ (H1 : Heap) (locs1 : List Loc), va_P D vwCl ws H1 → va_S A s.heap H1 locs1 → W p l e R s m args below meth c H1 locs1 0 0 Q (F0 m (pc + 3) ls (.int tg.1 :: rest))) : W p l e R s m args below meth c H locs 0 0 Q (F0 m pc ls st0) := by
  have hFc : ∀ q, va_A [] H.size q → A q := by
    intro q h
    rcases h with ⟨k, e, h⟩ | h
    · simp at h
    · exact hA q (Nat.le_trans hS.1 h)
  refine va_calli hr hS (fun q _ h => hFc q h) hFc (fun x v t H1 locs1 ht hvm hw hB hz hk hS1 => ?_)
  obtain ⟨rfl, -⟩ := hw
  refine kk _ _ (fun k q hq => (hP k q hq).kept (hk q.1 (hP k q hq).lt ?_)) hS1
  intro h
  rcases h with ⟨k, e, h⟩ | h
  · simp at h
  · exact absurd (hP _ q hq).lt (Nat.not_lt.mpr h)
end KC
