def fnW_settled_38 (u : sW) (x2 : Int32) (x3 : Int32) (x4 : Int32) (y0 : Int32) : Option (Int32 × sW) := if bok y0 then (if bok x2 then (if bok x3 then (some (x4, (u.1, y0, x2, x3, u.2.2.2.2.1, u.2.2.2.2.2))) else none) else none) else none
def fnW_settled_24 (u : sW) (x2 : Int32) (x3 : Int32) (x4 : Int32) (y0 : Int32) : Option (Int32 × sW) := if bok y0 then (if x4 = 0 then (fnW_settled_38 (y0, u.2.1, u.2.2.1, u.2.2.2.1, u.2.2.2.2.1, u.2.2.2.2.2) x2 x3 x4 (1 : Int32)) else (fnW_settled_38 (y0, u.2.1, u.2.2.1, u.2.2.2.1, u.2.2.2.2.1, u.2.2.2.2.2) x2 x3 x4 (0 : Int32))) else none
def fnW_settled (u : sW) (a1 : Int32) (a2 : Int32) (a3 : Int32) : Option (Int32 × sW) := if ((a1 &&& u.2.2.2.2.1) &&& u.2.2.2.2.2) = 0 then (fnW_settled_24 u a2 a3 (a1 &&& u.2.2.2.2.1) (0 : Int32)) else (fnW_settled_24 u a2 a3 (a1 &&& u.2.2.2.2.1) (1 : Int32))
set_option maxRecDepth 100000 in
set_option maxHeartbeats 4000000 in
theorem ctW_settled (l : Launch) (D : va_G) (kI : ClassId) (o : Nat) (sz : Nat) (u : sW) (a1 : Int32) (a2 : Int32) (a3 : Int32) (tg : Int32 × sW) (ht : fnW_settled u a1 a2 a3 = some tg) : Met l yX0_settled (Cond.code yX0_settled cX0_settled 5 (some .int) :: wAll) ({ frames := 0, cells := 0, slots := 0, locals := 0 } : Room) (va_Pc [.ref o, .int a1, .int a2, .int a3] (prG D kI (clW o) sz u)) (va_Qi (fun (x : Int32) (v : sW) => x = tg.1 ∧ v = tg.2) (poG D kI (clW o) (va_A (clW o u) sz)) (va_A (clW o u) sz)) 0 0 (va_A (clW o u) sz) := by
  refine mOfW (cc := cX0_settled) (maxL := 5) (ret := (some .int)) (by decide) rfl ?_
  intro p e s m args below meth c s₁ Q R hQ hR B hml hv
  obtain ⟨rfl, hsz, hP, hK, hD0⟩ := hv
  have hx := B.exec
  have hb := B.bytes
  have hr := B.returns
  have hts := atoms_spec (ws := Cond.code yX0_settled cX0_settled 5 (some .int) :: wAll) B.pre
  have hw : ∀ {w : Cond}, w ∈ wAll → w.before _ s = true := fun {w} h => hts w (List.mem_cons_of_mem _ h)
  have hown : s.vm.findClass RX0 = some m.cls := findClass_of_methodNamed B.named
  have hlocks := B.notSynchronized
  have hRf : 0 ≤ R.frames := by rw [hR]; exact Nat.le_refl _
  have hRl : 0 ≤ R.locals := by rw [hR]; exact Nat.le_refl _
  subst hsz
  have hD := hD0.self (sz := s.heap.size)
  generalize hAe : va_A (clW o u) s.heap.size = A at hD  hQ
  have hA : ∀ q : Nat, s.heap.size ≤ q → A q := fun q h => by rw [← hAe]; exact Or.inr h
  have hl := lv_entry ([.ref o, .int a1, .int a2, .int a3]) (n := 5) (Nat.le_of_ble_eq_true rfl)
  rw [lg_entry_eq]
  generalize (lg_sl ([.ref o, .int a1, .int a2, .int a3]) ++ List.replicate (5 - (lg_sl ([.ref o, .int a1, .int a2, .int a3])).length) Slot.unset).toArray = ls at hl ⊢
  have hl : lv_has ls 5 [(0, .ref o), (1, .int a1), (2, .int a2), (3, .int a3)] := hl
  have hin0 : ∀ w ∈ u_ws RX0 TX0 6, w ∈ (Cond.code yX0_settled cX0_settled 5 (some .int) :: wAll) := fun w h => List.mem_cons_of_mem _ (w_flX0 w h)
  have K38 : ∀ (H : Heap) (locs : List Loc) (ls : Array Slot) (u : sW) (x2 : Int32) (x3 : Int32) (x4 : Int32) (y0 : Int32) , va_P D vwCl (clW o u) H → va_D A (clW o u) → va_S A s.heap H locs → lv_has ls 5 [(0, .ref o), (2, .int x2), (3, .int x3), (4, .int x4)] → fnW_settled_38 u x2 x3 x4 y0 = some tg → W p l e R s m ([.ref o, .int a1, .int a2, .int a3] : List Value).toArray below meth c H locs 0 0 Q (F0 m 38 ls [.int y0, .ref o]) := by
    intro H locs ls u x2 x3 x4 y0 hP hD hS hl ht
    unfold fnW_settled_38 at ht
    obtain ⟨b4, ht⟩ := oi_some ht
    refine va_put (D := D) (ci := 0) (v := .int y0) (ty := .boolean) (C := RX0) (T := TX0) (N := 6) hx hb hts hin0 tyX0 tyX0_ok nmX0 hown hK hP hD hS 0 rfl rfl 1 (by decide) (hw w_f_X0_15) (fun _ h9 => h9) rfl (by decide +kernel) (bok_n b4) (bok_f b4) (Nat.le_of_ble_eq_true rfl) dX0_settled_38 (fun H locs hP hD hS => ?_)
    have hP : va_P D vwCl (clW o (u.1, y0, u.2.2.1, u.2.2.2.1, u.2.2.2.2.1, u.2.2.2.2.2)) H := hP
    have hD : va_D A (clW o (u.1, y0, u.2.2.1, u.2.2.2.1, u.2.2.2.2.1, u.2.2.2.2.2)) := hD
    refine lv_aload_n hx hb dX0_settled_41 rfl (lv_at hl 0 rfl) ?_
    refine lv_iload_n hx hb dX0_settled_42 rfl (lv_at hl 1 rfl) ?_
    obtain ⟨b5, ht⟩ := oi_some ht
    refine va_put (D := D) (ci := 0) (v := .int x2) (ty := .boolean) (C := RX0) (T := TX0) (N := 6) hx hb hts hin0 tyX0 tyX0_ok nmX0 hown hK hP hD hS 0 rfl rfl 2 (by decide) (hw w_f_X0_18) (fun _ h9 => h9) rfl (by decide +kernel) (bok_n b5) (bok_f b5) (Nat.le_of_ble_eq_true rfl) dX0_settled_43 (fun H locs hP hD hS => ?_)
    have hP : va_P D vwCl (clW o (u.1, y0, x2, u.2.2.2.1, u.2.2.2.2.1, u.2.2.2.2.2)) H := hP
    have hD : va_D A (clW o (u.1, y0, x2, u.2.2.2.1, u.2.2.2.2.1, u.2.2.2.2.2)) := hD
    refine lv_aload_n hx hb dX0_settled_46 rfl (lv_at hl 0 rfl) ?_
    refine lv_iload_n hx hb dX0_settled_47 rfl (lv_at hl 2 rfl) ?_
    obtain ⟨b6, ht⟩ := oi_some ht
    refine va_put (D := D) (ci := 0) (v := .int x3) (ty := .boolean) (C := RX0) (T := TX0) (N := 6) hx hb hts hin0 tyX0 tyX0_ok nmX0 hown hK hP hD hS 0 rfl rfl 3 (by decide) (hw w_f_X0_21) (fun _ h9 => h9) rfl (by decide +kernel) (bok_n b6) (bok_f b6) (Nat.le_of_ble_eq_true rfl) dX0_settled_48 (fun H locs hP hD hS => ?_)
    have hP : va_P D vwCl (clW o (u.1, y0, x2, x3, u.2.2.2.2.1, u.2.2.2.2.2)) H := hP
    have hD : va_D A (clW o (u.1, y0, x2, x3, u.2.2.2.2.1, u.2.2.2.2.2)) := hD
    refine lv_iload hx hb dX0_settled_51 (lv_at hl 3 rfl) ?_
    have e9 := Option.some.inj ht
    subst hQ
    exact W.iret (v := x4) hx hb hr (fun t ht9 hW => ⟨⟨x4, (u.1, y0, x2, x3, u.2.2.2.2.1, u.2.2.2.2.2), rfl, ⟨congrArg Prod.fst e9, congrArg Prod.snd e9⟩, ⟨by rw [ht9]; exact hP, va_K.moved hW.alike hK, hD⟩⟩, hS.F ht9⟩) hS.2.2 dX0_settled_53
  have K24 : ∀ (H : Heap) (locs : List Loc) (ls : Array Slot) (u : sW) (x2 : Int32) (x3 : Int32) (x4 : Int32) (y0 : Int32) , va_P D vwCl (clW o u) H → va_D A (clW o u) → va_S A s.heap H locs → lv_has ls 5 [(0, .ref o), (2, .int x2), (3, .int x3), (4, .int x4)] → fnW_settled_24 u x2 x3 x4 y0 = some tg → W p l e R s m ([.ref o, .int a1, .int a2, .int a3] : List Value).toArray below meth c H locs 0 0 Q (F0 m 24 ls [.int y0, .ref o]) := by
    intro H locs ls u x2 x3 x4 y0 hP hD hS hl ht
    unfold fnW_settled_24 at ht
    obtain ⟨b2, ht⟩ := oi_some ht
    refine va_put (D := D) (ci := 0) (v := .int y0) (ty := .boolean) (C := RX0) (T := TX0) (N := 6) hx hb hts hin0 tyX0 tyX0_ok nmX0 hown hK hP hD hS 0 rfl rfl 0 (by decide) (hw w_f_X0_9) (fun _ h9 => h9) rfl (by decide +kernel) (bok_n b2) (bok_f b2) (Nat.le_of_ble_eq_true rfl) dX0_settled_24 (fun H locs hP hD hS => ?_)
    have hP : va_P D vwCl (clW o (y0, u.2.1, u.2.2.1, u.2.2.2.1, u.2.2.2.2.1, u.2.2.2.2.2)) H := hP
    have hD : va_D A (clW o (y0, u.2.1, u.2.2.1, u.2.2.2.1, u.2.2.2.2.1, u.2.2.2.2.2)) := hD
    refine lv_aload_n hx hb dX0_settled_27 rfl (lv_at hl 0 rfl) ?_
    refine lv_iload hx hb dX0_settled_28 (lv_at hl 3 rfl) ?_
    refine lv_if_ne (tgt := 37) hx hb dX0_settled_30 (by decide) (fun g3 => ?_) (fun g3 => ?_)
    · have ht := (if_neg g3).symm.trans ht
      refine lv_iconst (v := (0 : Int32)) hx hb dX0_settled_37 (by decide) ?_
      exact K38 _ _ _ (y0, u.2.1, u.2.2.1, u.2.2.2.1, u.2.2.2.2.1, u.2.2.2.2.2) x2 x3 x4 (0 : Int32) hP hD hS (lv_sub hl [0, 1, 2, 3] rfl) ht
    · have ht := (if_pos g3).symm.trans ht
      refine lv_iconst (v := (1 : Int32)) hx hb dX0_settled_33 (by decide) ?_
      refine lv_goto (tgt := 38) hx hb dX0_settled_34 (by decide) ?_
      exact K38 _ _ _ (y0, u.2.1, u.2.2.1, u.2.2.2.1, u.2.2.2.2.1, u.2.2.2.2.2) x2 x3 x4 (1 : Int32) hP hD hS (lv_sub hl [0, 1, 2, 3] rfl) ht
  unfold fnW_settled at ht
  obtain ⟨H, hHe⟩ : ∃ H : Heap, H = s.heap := ⟨_, rfl⟩
  have hP : va_P D vwCl (clW o u) H := by rw [hHe]; exact hP
  have hS : va_S A s.heap H [] := by rw [hHe]; exact va_S.rf
  rw [← hHe]
  refine lv_iload_n hx hb dX0_settled_0 rfl (lv_at hl 1 rfl) ?_
  refine lv_aload_n hx hb dX0_settled_1 rfl (lv_at hl 0 rfl) ?_
  refine va_get (D := D) (ci := 0) (v := .int u.2.2.2.2.1) (C := RX0) (T := TX0) (N := 6) hx hb hts hin0 hown hK hP 0 rfl rfl 4 (by decide) (hw w_f_X0_25) (fun _ h9 => h9) rfl dX0_settled_2 ?_
  refine lv_iand hx hb dX0_settled_5 ?_
  refine lv_istore (lv' := [(4, .int (a1 &&& u.2.2.2.2.1)), (0, .ref o), (1, .int a1), (2, .int a2), (3, .int a3)]) hx hb dX0_settled_6 hl (by decide) rfl (fun ls hl => ?_)
  refine lv_aload_n hx hb dX0_settled_8 rfl (lv_at hl 1 rfl) ?_
  refine lv_iload hx hb dX0_settled_9 (lv_at hl 0 rfl) ?_
  refine lv_aload_n hx hb dX0_settled_11 rfl (lv_at hl 1 rfl) ?_
  refine va_get (D := D) (ci := 0) (v := .int u.2.2.2.2.2) (C := RX0) (T := TX0) (N := 6) hx hb hts hin0 hown hK hP 0 rfl rfl 5 (by decide) (hw w_f_X0_30) (fun _ h9 => h9) rfl dX0_settled_12 ?_
  refine lv_iand hx hb dX0_settled_15 ?_
  refine lv_if_eq (tgt := 23) hx hb dX0_settled_16 (by decide) (fun g1 => ?_) (fun g1 => ?_)
  · have ht := (if_pos g1).symm.trans ht
    refine lv_iconst (v := (0 : Int32)) hx hb dX0_settled_23 (by decide) ?_
    exact K24 _ _ _ u a2 a3 (a1 &&& u.2.2.2.2.1) (0 : Int32) hP hD hS (lv_sub hl [1, 3, 4, 0] rfl) ht
  · have ht := (if_neg g1).symm.trans ht
    refine lv_iconst (v := (1 : Int32)) hx hb dX0_settled_19 (by decide) ?_
    refine lv_goto (tgt := 24) hx hb dX0_settled_20 (by decide) ?_
    exact K24 _ _ _ u a2 a3 (a1 &&& u.2.2.2.2.1) (1 : Int32) hP hD hS (lv_sub hl [1, 3, 4, 0] rfl) ht
def fnW_packed_51 (u : sW) (y0 : Int32) (y1 : Int32) : Option (Int32 × sW) := some ((y1 ||| y0), u)
def fnW_packed_38 (u : sW) (y0 : Int32) (y1 : Int32) : Option (Int32 × sW) := if u.2.2.2.1 = 0 then (fnW_packed_51 u (0 : Int32) (y1 ||| y0)) else (fnW_packed_51 u (1 : Int32) (y1 ||| y0))
def fnW_packed_25 (u : sW) (y0 : Int32) (y1 : Int32) : Option (Int32 × sW) := if u.2.2.1 = 0 then (fnW_packed_38 u (0 : Int32) (y1 ||| y0)) else (fnW_packed_38 u (2 : Int32) (y1 ||| y0))
def fnW_packed_13 (u : sW) (y0 : Int32) : Option (Int32 × sW) := if u.2.1 = 0 then (fnW_packed_25 u (0 : Int32) y0) else (fnW_packed_25 u (4 : Int32) y0)
def fnW_packed (u : sW) : Option (Int32 × sW) := if u.1 = 0 then (fnW_packed_13 u (0 : Int32)) else (fnW_packed_13 u (8 : Int32))
set_option maxRecDepth 100000 in
set_option maxHeartbeats 4000000 in
theorem ctW_packed (l : Launch) (D : va_G) (kI : ClassId) (o : Nat) (sz : Nat) (u : sW) (tg : Int32 × sW) (ht : fnW_packed u  = some tg) : Met l yX0_packed (Cond.code yX0_packed cX0_packed 1 (some .int) :: wAll) ({ frames := 0, cells := 0, slots := 0, locals := 0 } : Room) (va_Pc [.ref o] (prG D kI (clW o) sz u)) (va_Qi (fun (x : Int32) (v : sW) => x = tg.1 ∧ v = tg.2) (poG D kI (clW o) (va_A (clW o u) sz)) (va_A (clW o u) sz)) 0 0 (va_A (clW o u) sz) := by
  refine mOfW (cc := cX0_packed) (maxL := 1) (ret := (some .int)) (by decide) rfl ?_
  intro p e s m args below meth c s₁ Q R hQ hR B hml hv
  obtain ⟨rfl, hsz, hP, hK, hD0⟩ := hv
  have hx := B.exec
  have hb := B.bytes
  have hr := B.returns
  have hts := atoms_spec (ws := Cond.code yX0_packed cX0_packed 1 (some .int) :: wAll) B.pre
  have hw : ∀ {w : Cond}, w ∈ wAll → w.before _ s = true := fun {w} h => hts w (List.mem_cons_of_mem _ h)
  have hown : s.vm.findClass RX0 = some m.cls := findClass_of_methodNamed B.named
  have hlocks := B.notSynchronized
  have hRf : 0 ≤ R.frames := by rw [hR]; exact Nat.le_refl _
  have hRl : 0 ≤ R.locals := by rw [hR]; exact Nat.le_refl _
  subst hsz
  have hD := hD0.self (sz := s.heap.size)
  generalize hAe : va_A (clW o u) s.heap.size = A at hD  hQ
  have hA : ∀ q : Nat, s.heap.size ≤ q → A q := fun q h => by rw [← hAe]; exact Or.inr h
  have hl := lv_entry ([.ref o]) (n := 1) (Nat.le_of_ble_eq_true rfl)
  rw [lg_entry_eq]
  generalize (lg_sl ([.ref o]) ++ List.replicate (1 - (lg_sl ([.ref o])).length) Slot.unset).toArray = ls at hl ⊢
  have hl : lv_has ls 1 [(0, .ref o)] := hl
  have hin0 : ∀ w ∈ u_ws RX0 TX0 6, w ∈ (Cond.code yX0_packed cX0_packed 1 (some .int) :: wAll) := fun w h => List.mem_cons_of_mem _ (w_flX0 w h)
  have K51 : ∀ (H : Heap) (locs : List Loc) (ls : Array Slot) (u : sW) (y0 : Int32) (y1 : Int32) , va_P D vwCl (clW o u) H → va_D A (clW o u) → va_S A s.heap H locs → lv_has ls 1 [] → fnW_packed_51 u y0 y1 = some tg → W p l e R s m ([.ref o] : List Value).toArray below meth c H locs 0 0 Q (F0 m 51 ls [.int y0, .int y1]) := by
    intro H locs ls u y0 y1 hP hD hS hl ht
    unfold fnW_packed_51 at ht
    refine lv_ior hx hb dX0_packed_51 ?_
    have e9 := Option.some.inj ht
    subst hQ
    exact W.iret (v := (y1 ||| y0)) hx hb hr (fun t ht9 hW => ⟨⟨(y1 ||| y0), u, rfl, ⟨congrArg Prod.fst e9, congrArg Prod.snd e9⟩, ⟨by rw [ht9]; exact hP, va_K.moved hW.alike hK, hD⟩⟩, hS.F ht9⟩) hS.2.2 dX0_packed_52
  have K38 : ∀ (H : Heap) (locs : List Loc) (ls : Array Slot) (u : sW) (y0 : Int32) (y1 : Int32) , va_P D vwCl (clW o u) H → va_D A (clW o u) → va_S A s.heap H locs → lv_has ls 1 [(0, .ref o)] → fnW_packed_38 u y0 y1 = some tg → W p l e R s m ([.ref o] : List Value).toArray below meth c H locs 0 0 Q (F0 m 38 ls [.int y0, .int y1]) := by
    intro H locs ls u y0 y1 hP hD hS hl ht
    unfold fnW_packed_38 at ht
    refine lv_ior hx hb dX0_packed_38 ?_
    refine lv_aload_n hx hb dX0_packed_39 rfl (lv_at hl 0 rfl) ?_
    refine va_get (D := D) (ci := 0) (v := .int u.2.2.2.1) (C := RX0) (T := TX0) (N := 6) hx hb hts hin0 hown hK hP 0 rfl rfl 3 (by decide) (hw w_f_X0_21) (fun _ h9 => h9) rfl dX0_packed_40 ?_
    refine lv_if_eq (tgt := 50) hx hb dX0_packed_43 (by decide) (fun g4 => ?_) (fun g4 => ?_)
    · have ht := (if_pos g4).symm.trans ht
      refine lv_iconst (v := (0 : Int32)) hx hb dX0_packed_50 (by decide) ?_
      exact K51 _ _ _ u (0 : Int32) (y1 ||| y0) hP hD hS (lv_sub hl [] rfl) ht
    · have ht := (if_neg g4).symm.trans ht
      refine lv_iconst (v := (1 : Int32)) hx hb dX0_packed_46 (by decide) ?_
      refine lv_goto (tgt := 51) hx hb dX0_packed_47 (by decide) ?_
      exact K51 _ _ _ u (1 : Int32) (y1 ||| y0) hP hD hS (lv_sub hl [] rfl) ht
  have K25 : ∀ (H : Heap) (locs : List Loc) (ls : Array Slot) (u : sW) (y0 : Int32) (y1 : Int32) , va_P D vwCl (clW o u) H → va_D A (clW o u) → va_S A s.heap H locs → lv_has ls 1 [(0, .ref o)] → fnW_packed_25 u y0 y1 = some tg → W p l e R s m ([.ref o] : List Value).toArray below meth c H locs 0 0 Q (F0 m 25 ls [.int y0, .int y1]) := by
    intro H locs ls u y0 y1 hP hD hS hl ht
    unfold fnW_packed_25 at ht
    refine lv_ior hx hb dX0_packed_25 ?_
    refine lv_aload_n hx hb dX0_packed_26 rfl (lv_at hl 0 rfl) ?_
    refine va_get (D := D) (ci := 0) (v := .int u.2.2.1) (C := RX0) (T := TX0) (N := 6) hx hb hts hin0 hown hK hP 0 rfl rfl 2 (by decide) (hw w_f_X0_18) (fun _ h9 => h9) rfl dX0_packed_27 ?_
    refine lv_if_eq (tgt := 37) hx hb dX0_packed_30 (by decide) (fun g3 => ?_) (fun g3 => ?_)
    · have ht := (if_pos g3).symm.trans ht
      refine lv_iconst (v := (0 : Int32)) hx hb dX0_packed_37 (by decide) ?_
      exact K38 _ _ _ u (0 : Int32) (y1 ||| y0) hP hD hS (lv_sub hl [0] rfl) ht
    · have ht := (if_neg g3).symm.trans ht
      refine lv_iconst (v := (2 : Int32)) hx hb dX0_packed_33 (by decide) ?_
      refine lv_goto (tgt := 38) hx hb dX0_packed_34 (by decide) ?_
      exact K38 _ _ _ u (2 : Int32) (y1 ||| y0) hP hD hS (lv_sub hl [0] rfl) ht
  have K13 : ∀ (H : Heap) (locs : List Loc) (ls : Array Slot) (u : sW) (y0 : Int32) , va_P D vwCl (clW o u) H → va_D A (clW o u) → va_S A s.heap H locs → lv_has ls 1 [(0, .ref o)] → fnW_packed_13 u y0 = some tg → W p l e R s m ([.ref o] : List Value).toArray below meth c H locs 0 0 Q (F0 m 13 ls [.int y0]) := by
    intro H locs ls u y0 hP hD hS hl ht
    unfold fnW_packed_13 at ht
    refine lv_aload_n hx hb dX0_packed_13 rfl (lv_at hl 0 rfl) ?_
    refine va_get (D := D) (ci := 0) (v := .int u.2.1) (C := RX0) (T := TX0) (N := 6) hx hb hts hin0 hown hK hP 0 rfl rfl 1 (by decide) (hw w_f_X0_15) (fun _ h9 => h9) rfl dX0_packed_14 ?_
    refine lv_if_eq (tgt := 24) hx hb dX0_packed_17 (by decide) (fun g2 => ?_) (fun g2 => ?_)
    · have ht := (if_pos g2).symm.trans ht
      refine lv_iconst (v := (0 : Int32)) hx hb dX0_packed_24 (by decide) ?_
      exact K25 _ _ _ u (0 : Int32) y0 hP hD hS (lv_sub hl [0] rfl) ht
    · have ht := (if_neg g2).symm.trans ht
      refine lv_iconst (v := (4 : Int32)) hx hb dX0_packed_20 (by decide) ?_
      refine lv_goto (tgt := 25) hx hb dX0_packed_21 (by decide) ?_
      exact K25 _ _ _ u (4 : Int32) y0 hP hD hS (lv_sub hl [0] rfl) ht
  unfold fnW_packed at ht
  obtain ⟨H, hHe⟩ : ∃ H : Heap, H = s.heap := ⟨_, rfl⟩
  have hP : va_P D vwCl (clW o u) H := by rw [hHe]; exact hP
  have hS : va_S A s.heap H [] := by rw [hHe]; exact va_S.rf
  rw [← hHe]
  refine lv_aload_n hx hb dX0_packed_0 rfl (lv_at hl 0 rfl) ?_
  refine va_get (D := D) (ci := 0) (v := .int u.1) (C := RX0) (T := TX0) (N := 6) hx hb hts hin0 hown hK hP 0 rfl rfl 0 (by decide) (hw w_f_X0_9) (fun _ h9 => h9) rfl dX0_packed_1 ?_
  refine lv_if_eq (tgt := 12) hx hb dX0_packed_4 (by decide) (fun g1 => ?_) (fun g1 => ?_)
  · have ht := (if_pos g1).symm.trans ht
    refine lv_iconst (v := (0 : Int32)) hx hb dX0_packed_12 (by decide) ?_
    exact K13 _ _ _ u (0 : Int32) hP hD hS (lv_sub hl [0] rfl) ht
  · have ht := (if_neg g1).symm.trans ht
    refine lv_bipush (v := (8 : Int32)) hx hb dX0_packed_7 (by decide) ?_
    refine lv_goto (tgt := 13) hx hb dX0_packed_9 (by decide) ?_
    exact K13 _ _ _ u (8 : Int32) hP hD hS (lv_sub hl [0] rfl) ht
def fnW_logical (u : sW) (a1 : Int32) : Option (Int32 × sW) := (fnW_settled u a1 (0 : Int32) u.2.2.2.1).bind (fun r1 => some (r1.1, r1.2))
set_option maxRecDepth 100000 in
set_option maxHeartbeats 4000000 in
theorem ctW_logical (l : Launch) (D : va_G) (kI : ClassId) (o : Nat) (sz : Nat) (u : sW) (a1 : Int32) (tg : Int32 × sW) (ht : fnW_logical u a1 = some tg) : Met l yX0_logical (Cond.code yX0_logical cX0_logical 2 (some .int) :: wAll) ({ frames := 1, cells := 0, slots := 0, locals := 24 } : Room) (va_Pc [.ref o, .int a1] (prG D kI (clW o) sz u)) (va_Qi (fun (x : Int32) (v : sW) => x = tg.1 ∧ v = tg.2) (poG D kI (clW o) (va_A (clW o u) sz)) (va_A (clW o u) sz)) 0 0 (va_A (clW o u) sz) := by
  refine mOfW (cc := cX0_logical) (maxL := 2) (ret := (some .int)) (by decide) rfl ?_
  intro p e s m args below meth c s₁ Q R hQ hR B hml hv
  obtain ⟨rfl, hsz, hP, hK, hD0⟩ := hv
  have hx := B.exec
  have hb := B.bytes
  have hr := B.returns
  have hts := atoms_spec (ws := Cond.code yX0_logical cX0_logical 2 (some .int) :: wAll) B.pre
  have hw : ∀ {w : Cond}, w ∈ wAll → w.before _ s = true := fun {w} h => hts w (List.mem_cons_of_mem _ h)
  have hown : s.vm.findClass RX0 = some m.cls := findClass_of_methodNamed B.named
  have hlocks := B.notSynchronized
  have hRf : 1 ≤ R.frames := by rw [hR]; exact Nat.le_refl _
  have hRl : 24 ≤ R.locals := by rw [hR]; exact Nat.le_refl _
  subst hsz
  have hD := hD0.self (sz := s.heap.size)
  generalize hAe : va_A (clW o u) s.heap.size = A at hD  hQ
  have hA : ∀ q : Nat, s.heap.size ≤ q → A q := fun q h => by rw [← hAe]; exact Or.inr h
  have hl := lv_entry ([.ref o, .int a1]) (n := 2) (Nat.le_of_ble_eq_true rfl)
  rw [lg_entry_eq]
  generalize (lg_sl ([.ref o, .int a1]) ++ List.replicate (2 - (lg_sl ([.ref o, .int a1])).length) Slot.unset).toArray = ls at hl ⊢
  have hl : lv_has ls 2 [(0, .ref o), (1, .int a1)] := hl
  have hin0 : ∀ w ∈ u_ws RX0 TX0 6, w ∈ (Cond.code yX0_logical cX0_logical 2 (some .int) :: wAll) := fun w h => List.mem_cons_of_mem _ (w_flX0 w h)
  unfold fnW_logical at ht
  obtain ⟨H, hHe⟩ : ∃ H : Heap, H = s.heap := ⟨_, rfl⟩
  have hP : va_P D vwCl (clW o u) H := by rw [hHe]; exact hP
  have hS : va_S A s.heap H [] := by rw [hHe]; exact va_S.rf
  rw [← hHe]
  refine lv_aload_n hx hb dX0_logical_0 rfl (lv_at hl 0 rfl) ?_
  refine lv_iload_n hx hb dX0_logical_1 rfl (lv_at hl 1 rfl) ?_
  refine lv_iconst (v := (0 : Int32)) hx hb dX0_logical_2 (by decide) ?_
  refine lv_aload_n hx hb dX0_logical_3 rfl (lv_at hl 0 rfl) ?_
  refine va_get (D := D) (ci := 0) (v := .int u.2.2.2.1) (C := RX0) (T := TX0) (N := 6) hx hb hts hin0 hown hK hP 0 rfl rfl 3 (by decide) (hw w_f_X0_21) (fun _ h9 => h9) rfl dX0_logical_4 ?_
  obtain ⟨r1, h2, ht⟩ := ob_some ht
  refine kG_i (cl := clW o) (u := u) (va_runV (As := [.int a1, .int (0 : Int32), .int u.2.2.2.1]) (rest := []) ⟨hx, hb, hml, hown, hts⟩ (ctW_settled l D kI o H.size u a1 (0 : Int32) u.2.2.2.1 r1 h2) (cwV 3 hts (gV w_m_X0_44 w_im_yX0_settled w_sel_yX0_settled w_init_MicroMill_Work w_co_yX0_settled) rfl rfl rfl (by decide +kernel) ⟨Nat.le_trans (Nat.le_of_ble_eq_true rfl) hRf, Nat.le_trans (Nat.le_of_ble_eq_true rfl) hRl⟩) (preG (cl := clW o) (u := u) (N := 6) (ci := 0) hK hP (hD.weaken (fun _ _ _ _ => trivial)) rfl rfl _) rfl rfl hl.1 rfl (lv_room (Nat.le_of_ble_eq_true rfl)) dX0_logical_7 ⟨Nat.zero_le _, Nat.zero_le _⟩) hD hS hA (fun H locs hP hD hS => ?_)
  have e9 := Option.some.inj ht
  subst hQ
  exact W.iret (v := r1.1) hx hb hr (fun t ht9 hW => ⟨⟨r1.1, r1.2, rfl, ⟨congrArg Prod.fst e9, congrArg Prod.snd e9⟩, ⟨by rw [ht9]; exact hP, va_K.moved hW.alike hK, hD⟩⟩, hS.F ht9⟩) hS.2.2 dX0_logical_10
def fnA_shiftOf (a1 : Int32) : Option (Int32 × Unit) := some (((a1 &&& (1 : Int32)) * (8 : Int32)), ())
set_option maxRecDepth 100000 in
set_option maxHeartbeats 4000000 in
theorem ctA_shiftOf (l : Launch) (sz : Nat) (a1 : Int32) (tg : Int32 × Unit) (ht : fnA_shiftOf a1 = some tg) : Met l yX1_shiftOf (Cond.code yX1_shiftOf cX1_shiftOf 1 (some .int) :: wAll) ({ frames := 0, cells := 0, slots := 0, locals := 0 } : Room) (va_Pc [.int a1] (prS sz)) (va_Qi (fun (x : Int32) (v : Unit) => x = tg.1 ∧ v = tg.2) poS (va_A [] sz)) 0 0 (va_A [] sz) := by
  refine mOfW (cc := cX1_shiftOf) (maxL := 1) (ret := (some .int)) (by decide) rfl ?_
  intro p e s m args below meth c s₁ Q R hQ hR B hml hv
  obtain ⟨rfl, hsz⟩ := hv
  have hx := B.exec
  have hb := B.bytes
  have hr := B.returns
  have hts := atoms_spec (ws := Cond.code yX1_shiftOf cX1_shiftOf 1 (some .int) :: wAll) B.pre
  have hw : ∀ {w : Cond}, w ∈ wAll → w.before _ s = true := fun {w} h => hts w (List.mem_cons_of_mem _ h)
  have hown : s.vm.findClass RX1 = some m.cls := findClass_of_methodNamed B.named
  have hlocks := B.notSynchronized
  have hRf : 0 ≤ R.frames := by rw [hR]; exact Nat.le_refl _
  have hRl : 0 ≤ R.locals := by rw [hR]; exact Nat.le_refl _
  unfold prS at hsz
  subst hsz
  generalize hAe : va_A [] s.heap.size = A at hQ
  have hA : ∀ q : Nat, s.heap.size ≤ q → A q := fun q h => by rw [← hAe]; exact Or.inr h
  have hl := lv_entry ([.int a1]) (n := 1) (Nat.le_of_ble_eq_true rfl)
  rw [lg_entry_eq]
  generalize (lg_sl ([.int a1]) ++ List.replicate (1 - (lg_sl ([.int a1])).length) Slot.unset).toArray = ls at hl ⊢
  have hl : lv_has ls 1 [(0, .int a1)] := hl
  unfold fnA_shiftOf at ht
  obtain ⟨H, hHe⟩ : ∃ H : Heap, H = s.heap := ⟨_, rfl⟩
  have hS : va_S A s.heap H [] := by rw [hHe]; exact va_S.rf
  rw [← hHe]
  refine lv_iload_n hx hb dX1_shiftOf_0 rfl (lv_at hl 0 rfl) ?_
  refine lv_iconst (v := (1 : Int32)) hx hb dX1_shiftOf_1 (by decide) ?_
  refine lv_iand hx hb dX1_shiftOf_2 ?_
  refine lv_bipush (v := (8 : Int32)) hx hb dX1_shiftOf_3 (by decide) ?_
  refine lv_imul hx hb dX1_shiftOf_5 ?_
  have e9 := Option.some.inj ht
  subst hQ
  exact W.iret (v := ((a1 &&& (1 : Int32)) * (8 : Int32))) hx hb hr (fun t ht9 hW => ⟨⟨((a1 &&& (1 : Int32)) * (8 : Int32)), (), rfl, ⟨congrArg Prod.fst e9, congrArg Prod.snd e9⟩, trivial⟩, hS.F ht9⟩) hS.2.2 dX1_shiftOf_6
def fnA_readWord (u : sA) (a1 : Int32) : Option (Int32 × sA) := if (a1 &&& (1 : Int32)) = 0 then (if a1 < (4096 : Int32) then (if ixk (a1 >>> ((1 : Int32) &&& 31)) 2048 then (some ((u.1 (a1 >>> ((1 : Int32) &&& 31)).toNatClampNeg), u)) else none) else (some ((-1 : Int32), (u.1, u.2.1, (4 : Int32), u.2.2.2.1, u.2.2.2.2.1, u.2.2.2.2.2.1, u.2.2.2.2.2.2)))) else (some ((-1 : Int32), (u.1, u.2.1, (3 : Int32), u.2.2.2.1, u.2.2.2.2.1, u.2.2.2.2.2.1, u.2.2.2.2.2.2)))
set_option maxRecDepth 100000 in
set_option maxHeartbeats 4000000 in
theorem ctA_readWord (l : Launch) (D : va_G) (kI : ClassId) (tb : Nat) (o aw ar ak : Nat) (sz : Nat) (u : sA) (a1 : Int32) (tg : Int32 × sA) (ht : fnA_readWord u a1 = some tg) : Met l yX1_readWord (Cond.code yX1_readWord cX1_readWord 2 (some .int) :: wAll) ({ frames := 0, cells := 0, slots := 0, locals := 0 } : Room) (va_Pc [.ref o, .int a1] (prA D kI tb o aw ar ak sz u)) (va_Qi (fun (x : Int32) (v : sA) => x = tg.1 ∧ v = tg.2) (poG D kI (clA o aw ar ak kI) (va_A (clA o aw ar ak kI u) sz)) (va_A (clA o aw ar ak kI u) sz)) 0 0 (va_A (clA o aw ar ak kI u) sz) := by
  refine mOfW (cc := cX1_readWord) (maxL := 2) (ret := (some .int)) (by decide) rfl ?_
  intro p e s m args below meth c s₁ Q R hQ hR B hml hv
  obtain ⟨rfl, hsz, hP, hK, hD0, hZ⟩ := hv
  have hx := B.exec
  have hb := B.bytes
  have hr := B.returns
  have hts := atoms_spec (ws := Cond.code yX1_readWord cX1_readWord 2 (some .int) :: wAll) B.pre
  have hw : ∀ {w : Cond}, w ∈ wAll → w.before _ s = true := fun {w} h => hts w (List.mem_cons_of_mem _ h)
  have hown : s.vm.findClass RX1 = some m.cls := findClass_of_methodNamed B.named
  have hlocks := B.notSynchronized
  have hRf : 0 ≤ R.frames := by rw [hR]; exact Nat.le_refl _
  have hRl : 0 ≤ R.locals := by rw [hR]; exact Nat.le_refl _
  subst hsz
  have hD := hD0.self (sz := s.heap.size)
  generalize hAe : va_A (clA o aw ar ak kI u) s.heap.size = A at hD hZ hQ
  have hA : ∀ q : Nat, s.heap.size ≤ q → A q := fun q h => by rw [← hAe]; exact Or.inr h
  have hl := lv_entry ([.ref o, .int a1]) (n := 2) (Nat.le_of_ble_eq_true rfl)
  rw [lg_entry_eq]
  generalize (lg_sl ([.ref o, .int a1]) ++ List.replicate (2 - (lg_sl ([.ref o, .int a1])).length) Slot.unset).toArray = ls at hl ⊢
  have hl : lv_has ls 2 [(0, .ref o), (1, .int a1)] := hl
  have hin0 : ∀ w ∈ u_ws RX1 TX1 7, w ∈ (Cond.code yX1_readWord cX1_readWord 2 (some .int) :: wAll) := fun w h => List.mem_cons_of_mem _ (w_flX1 w h)
  unfold fnA_readWord at ht
  obtain ⟨H, hHe⟩ : ∃ H : Heap, H = s.heap := ⟨_, rfl⟩
  have hP : va_P D vwCl (clA o aw ar ak kI u) H := by rw [hHe]; exact hP
  have hS : va_S A s.heap H [] := by rw [hHe]; exact va_S.rf
  rw [← hHe]
  refine lv_iload_n hx hb dX1_readWord_0 rfl (lv_at hl 1 rfl) ?_
  refine lv_iconst (v := (1 : Int32)) hx hb dX1_readWord_1 (by decide) ?_
  refine lv_iand hx hb dX1_readWord_2 ?_
  refine lv_if_eq (tgt := 13) hx hb dX1_readWord_3 (by decide) (fun g1 => ?_) (fun g1 => ?_)
  · have ht := (if_pos g1).symm.trans ht
    refine lv_iload_n hx hb dX1_readWord_13 rfl (lv_at hl 1 rfl) ?_
    refine lv_sipush (v := (4096 : Int32)) hx hb dX1_readWord_14 (by decide) ?_
    refine lv_icmp_lt (tgt := 27) hx hb dX1_readWord_17 (by decide) (fun g2 => ?_) (fun g2 => ?_)
    · have ht := (if_pos g2).symm.trans ht
      refine lv_aload_n hx hb dX1_readWord_27 rfl (lv_at hl 0 rfl) ?_
      refine va_get (D := D) (ci := 1) (v := .ref aw) (C := RX1) (T := TX1) (N := 7) hx hb hts hin0 hown hK hP 0 rfl rfl 0 (by decide) (hw w_f_X1_9) (fun _ h9 => h9) rfl dX1_readWord_28 ?_
      refine lv_iload_n hx hb dX1_readWord_31 rfl (lv_at hl 1 rfl) ?_
      refine lv_iconst (v := (1 : Int32)) hx hb dX1_readWord_32 (by decide) ?_
      refine lv_ishr hx hb dX1_readWord_33 ?_
      obtain ⟨b3, ht⟩ := oi_some ht
      refine va_iald hx hb hK hP 1 0 rfl rfl (ixk_in b3) dX1_readWord_34 ?_
      have e9 := Option.some.inj ht
      subst hQ
      exact W.iret (v := (u.1 (a1 >>> ((1 : Int32) &&& 31)).toNatClampNeg)) hx hb hr (fun t ht9 hW => ⟨⟨(u.1 (a1 >>> ((1 : Int32) &&& 31)).toNatClampNeg), u, rfl, ⟨congrArg Prod.fst e9, congrArg Prod.snd e9⟩, ⟨by rw [ht9]; exact hP, va_K.moved hW.alike hK, hD⟩⟩, hS.F ht9⟩) hS.2.2 dX1_readWord_35
    · have ht := (if_neg g2).symm.trans ht
      refine lv_aload_n hx hb dX1_readWord_20 rfl (lv_at hl 0 rfl) ?_
      refine lv_iconst (v := (4 : Int32)) hx hb dX1_readWord_21 (by decide) ?_
      refine va_put (D := D) (ci := 1) (v := .int (4 : Int32)) (ty := .int) (C := RX1) (T := TX1) (N := 7) hx hb hts hin0 tyX1 tyX1_ok nmX1 hown hK hP hD hS 0 rfl rfl 3 (by decide) (hw w_f_X1_23) (fun _ h9 => h9) rfl (by decide +kernel) rfl rfl (Nat.le_of_ble_eq_true rfl) dX1_readWord_22 (fun H locs hP hD hS => ?_)
      have hP : va_P D vwCl (clA o aw ar ak kI (u.1, u.2.1, (4 : Int32), u.2.2.2.1, u.2.2.2.2.1, u.2.2.2.2.2.1, u.2.2.2.2.2.2)) H := hP
      have hD : va_D A (clA o aw ar ak kI (u.1, u.2.1, (4 : Int32), u.2.2.2.1, u.2.2.2.2.1, u.2.2.2.2.2.1, u.2.2.2.2.2.2)) := hD
      refine lv_iconst (v := (-1 : Int32)) hx hb dX1_readWord_25 (by decide) ?_
      have e9 := Option.some.inj ht
      subst hQ
      exact W.iret (v := (-1 : Int32)) hx hb hr (fun t ht9 hW => ⟨⟨(-1 : Int32), (u.1, u.2.1, (4 : Int32), u.2.2.2.1, u.2.2.2.2.1, u.2.2.2.2.2.1, u.2.2.2.2.2.2), rfl, ⟨congrArg Prod.fst e9, congrArg Prod.snd e9⟩, ⟨by rw [ht9]; exact hP, va_K.moved hW.alike hK, hD⟩⟩, hS.F ht9⟩) hS.2.2 dX1_readWord_26
  · have ht := (if_neg g1).symm.trans ht
    refine lv_aload_n hx hb dX1_readWord_6 rfl (lv_at hl 0 rfl) ?_
    refine lv_iconst (v := (3 : Int32)) hx hb dX1_readWord_7 (by decide) ?_
    refine va_put (D := D) (ci := 1) (v := .int (3 : Int32)) (ty := .int) (C := RX1) (T := TX1) (N := 7) hx hb hts hin0 tyX1 tyX1_ok nmX1 hown hK hP hD hS 0 rfl rfl 3 (by decide) (hw w_f_X1_23) (fun _ h9 => h9) rfl (by decide +kernel) rfl rfl (Nat.le_of_ble_eq_true rfl) dX1_readWord_8 (fun H locs hP hD hS => ?_)
    have hP : va_P D vwCl (clA o aw ar ak kI (u.1, u.2.1, (3 : Int32), u.2.2.2.1, u.2.2.2.2.1, u.2.2.2.2.2.1, u.2.2.2.2.2.2)) H := hP
    have hD : va_D A (clA o aw ar ak kI (u.1, u.2.1, (3 : Int32), u.2.2.2.1, u.2.2.2.2.1, u.2.2.2.2.2.1, u.2.2.2.2.2.2)) := hD
    refine lv_iconst (v := (-1 : Int32)) hx hb dX1_readWord_11 (by decide) ?_
    have e9 := Option.some.inj ht
    subst hQ
    exact W.iret (v := (-1 : Int32)) hx hb hr (fun t ht9 hW => ⟨⟨(-1 : Int32), (u.1, u.2.1, (3 : Int32), u.2.2.2.1, u.2.2.2.2.1, u.2.2.2.2.2.1, u.2.2.2.2.2.2), rfl, ⟨congrArg Prod.fst e9, congrArg Prod.snd e9⟩, ⟨by rw [ht9]; exact hP, va_K.moved hW.alike hK, hD⟩⟩, hS.F ht9⟩) hS.2.2 dX1_readWord_12
def fnA_readByte (u : sA) (a1 : Int32) : Option (Int32 × sA) := if a1 < (4096 : Int32) then (if ixk (a1 >>> ((1 : Int32) &&& 31)) 2048 then ((fnA_shiftOf a1).bind (fun r3 => some ((((u.1 (a1 >>> ((1 : Int32) &&& 31)).toNatClampNeg) >>> (r3.1 &&& 31)) &&& (255 : Int32)), u))) else none) else (some ((-1 : Int32), (u.1, u.2.1, (4 : Int32), u.2.2.2.1, u.2.2.2.2.1, u.2.2.2.2.2.1, u.2.2.2.2.2.2)))
set_option maxRecDepth 100000 in
set_option maxHeartbeats 4000000 in
theorem ctA_readByte (l : Launch) (D : va_G) (kI : ClassId) (tb : Nat) (o aw ar ak : Nat) (sz : Nat) (u : sA) (a1 : Int32) (tg : Int32 × sA) (ht : fnA_readByte u a1 = some tg) : Met l yX1_readByte (Cond.code yX1_readByte cX1_readByte 2 (some .int) :: wAll) ({ frames := 1, cells := 0, slots := 0, locals := 20 } : Room) (va_Pc [.ref o, .int a1] (prA D kI tb o aw ar ak sz u)) (va_Qi (fun (x : Int32) (v : sA) => x = tg.1 ∧ v = tg.2) (poG D kI (clA o aw ar ak kI) (va_A (clA o aw ar ak kI u) sz)) (va_A (clA o aw ar ak kI u) sz)) 0 0 (va_A (clA o aw ar ak kI u) sz) := by
  refine mOfW (cc := cX1_readByte) (maxL := 2) (ret := (some .int)) (by decide) rfl ?_
  intro p e s m args below meth c s₁ Q R hQ hR B hml hv
  obtain ⟨rfl, hsz, hP, hK, hD0, hZ⟩ := hv
  have hx := B.exec
  have hb := B.bytes
  have hr := B.returns
  have hts := atoms_spec (ws := Cond.code yX1_readByte cX1_readByte 2 (some .int) :: wAll) B.pre
  have hw : ∀ {w : Cond}, w ∈ wAll → w.before _ s = true := fun {w} h => hts w (List.mem_cons_of_mem _ h)
  have hown : s.vm.findClass RX1 = some m.cls := findClass_of_methodNamed B.named
  have hlocks := B.notSynchronized
  have hRf : 1 ≤ R.frames := by rw [hR]; exact Nat.le_refl _
  have hRl : 20 ≤ R.locals := by rw [hR]; exact Nat.le_refl _
  subst hsz
  have hD := hD0.self (sz := s.heap.size)
  generalize hAe : va_A (clA o aw ar ak kI u) s.heap.size = A at hD hZ hQ
  have hA : ∀ q : Nat, s.heap.size ≤ q → A q := fun q h => by rw [← hAe]; exact Or.inr h
  have hl := lv_entry ([.ref o, .int a1]) (n := 2) (Nat.le_of_ble_eq_true rfl)
  rw [lg_entry_eq]
  generalize (lg_sl ([.ref o, .int a1]) ++ List.replicate (2 - (lg_sl ([.ref o, .int a1])).length) Slot.unset).toArray = ls at hl ⊢
  have hl : lv_has ls 2 [(0, .ref o), (1, .int a1)] := hl
  have hin0 : ∀ w ∈ u_ws RX1 TX1 7, w ∈ (Cond.code yX1_readByte cX1_readByte 2 (some .int) :: wAll) := fun w h => List.mem_cons_of_mem _ (w_flX1 w h)
  unfold fnA_readByte at ht
  obtain ⟨H, hHe⟩ : ∃ H : Heap, H = s.heap := ⟨_, rfl⟩
  have hP : va_P D vwCl (clA o aw ar ak kI u) H := by rw [hHe]; exact hP
  have hS : va_S A s.heap H [] := by rw [hHe]; exact va_S.rf
  rw [← hHe]
  refine lv_iload_n hx hb dX1_readByte_0 rfl (lv_at hl 1 rfl) ?_
  refine lv_sipush (v := (4096 : Int32)) hx hb dX1_readByte_1 (by decide) ?_
  refine lv_icmp_lt (tgt := 14) hx hb dX1_readByte_4 (by decide) (fun g1 => ?_) (fun g1 => ?_)
  · have ht := (if_pos g1).symm.trans ht
    refine lv_aload_n hx hb dX1_readByte_14 rfl (lv_at hl 0 rfl) ?_
    refine va_get (D := D) (ci := 1) (v := .ref aw) (C := RX1) (T := TX1) (N := 7) hx hb hts hin0 hown hK hP 0 rfl rfl 0 (by decide) (hw w_f_X1_9) (fun _ h9 => h9) rfl dX1_readByte_15 ?_
    refine lv_iload_n hx hb dX1_readByte_18 rfl (lv_at hl 1 rfl) ?_
    refine lv_iconst (v := (1 : Int32)) hx hb dX1_readByte_19 (by decide) ?_
    refine lv_ishr hx hb dX1_readByte_20 ?_
    obtain ⟨b2, ht⟩ := oi_some ht
    refine va_iald hx hb hK hP 1 0 rfl rfl (ixk_in b2) dX1_readByte_21 ?_
    refine lv_iload_n hx hb dX1_readByte_22 rfl (lv_at hl 1 rfl) ?_
    obtain ⟨r3, h4, ht⟩ := ob_some ht
    refine kS_i (va_runS (As := [.int a1]) (rest := [.int (u.1 (a1 >>> ((1 : Int32) &&& 31)).toNatClampNeg)]) ⟨hx, hb, hml, hown, hts⟩ (ctA_shiftOf l H.size a1 r3 h4) (cwS 1 hts (gS w_m_X1_152 w_sm_yX1_shiftOf w_init_MicroMill w_co_yX1_shiftOf) rfl rfl rfl (by decide +kernel) ⟨Nat.le_trans (Nat.le_of_ble_eq_true rfl) hRf, Nat.le_trans (Nat.le_of_ble_eq_true rfl) hRl⟩) (preSt _) rfl rfl hl.1 rfl (lv_room (Nat.le_of_ble_eq_true rfl)) dX1_readByte_23 ⟨Nat.zero_le _, Nat.zero_le _⟩) hP hS hA (fun H locs hP hS => ?_)
    refine lv_ishr hx hb dX1_readByte_26 ?_
    refine lv_sipush (v := (255 : Int32)) hx hb dX1_readByte_27 (by decide) ?_
    refine lv_iand hx hb dX1_readByte_30 ?_
    have e9 := Option.some.inj ht
    subst hQ
    exact W.iret (v := (((u.1 (a1 >>> ((1 : Int32) &&& 31)).toNatClampNeg) >>> (r3.1 &&& 31)) &&& (255 : Int32))) hx hb hr (fun t ht9 hW => ⟨⟨(((u.1 (a1 >>> ((1 : Int32) &&& 31)).toNatClampNeg) >>> (r3.1 &&& 31)) &&& (255 : Int32)), u, rfl, ⟨congrArg Prod.fst e9, congrArg Prod.snd e9⟩, ⟨by rw [ht9]; exact hP, va_K.moved hW.alike hK, hD⟩⟩, hS.F ht9⟩) hS.2.2 dX1_readByte_31
  · have ht := (if_neg g1).symm.trans ht
    refine lv_aload_n hx hb dX1_readByte_7 rfl (lv_at hl 0 rfl) ?_
    refine lv_iconst (v := (4 : Int32)) hx hb dX1_readByte_8 (by decide) ?_
    refine va_put (D := D) (ci := 1) (v := .int (4 : Int32)) (ty := .int) (C := RX1) (T := TX1) (N := 7) hx hb hts hin0 tyX1 tyX1_ok nmX1 hown hK hP hD hS 0 rfl rfl 3 (by decide) (hw w_f_X1_23) (fun _ h9 => h9) rfl (by decide +kernel) rfl rfl (Nat.le_of_ble_eq_true rfl) dX1_readByte_9 (fun H locs hP hD hS => ?_)
    have hP : va_P D vwCl (clA o aw ar ak kI (u.1, u.2.1, (4 : Int32), u.2.2.2.1, u.2.2.2.2.1, u.2.2.2.2.2.1, u.2.2.2.2.2.2)) H := hP
    have hD : va_D A (clA o aw ar ak kI (u.1, u.2.1, (4 : Int32), u.2.2.2.1, u.2.2.2.2.1, u.2.2.2.2.2.1, u.2.2.2.2.2.2)) := hD
    refine lv_iconst (v := (-1 : Int32)) hx hb dX1_readByte_12 (by decide) ?_
    have e9 := Option.some.inj ht
    subst hQ
    exact W.iret (v := (-1 : Int32)) hx hb hr (fun t ht9 hW => ⟨⟨(-1 : Int32), (u.1, u.2.1, (4 : Int32), u.2.2.2.1, u.2.2.2.2.1, u.2.2.2.2.2.1, u.2.2.2.2.2.2), rfl, ⟨congrArg Prod.fst e9, congrArg Prod.snd e9⟩, ⟨by rw [ht9]; exact hP, va_K.moved hW.alike hK, hD⟩⟩, hS.F ht9⟩) hS.2.2 dX1_readByte_13
def fnA_flags (u : sA) : Option (Int32 × sA) := (fnW_packed u.2.2.2.2.2.2).bind (fun r1 => some (r1.1, (u.1, u.2.1, u.2.2.1, u.2.2.2.1, u.2.2.2.2.1, u.2.2.2.2.2.1, r1.2)))
set_option maxRecDepth 100000 in
set_option maxHeartbeats 4000000 in
theorem ctA_flags (l : Launch) (D : va_G) (kI : ClassId) (tb : Nat) (o aw ar ak : Nat) (sz : Nat) (u : sA) (tg : Int32 × sA) (ht : fnA_flags u  = some tg) : Met l yX1_flags (Cond.code yX1_flags cX1_flags 1 (some .int) :: wAll) ({ frames := 1, cells := 0, slots := 0, locals := 20 } : Room) (va_Pc [.ref o] (prA D kI tb o aw ar ak sz u)) (va_Qi (fun (x : Int32) (v : sA) => x = tg.1 ∧ v = tg.2) (poG D kI (clA o aw ar ak kI) (va_A (clA o aw ar ak kI u) sz)) (va_A (clA o aw ar ak kI u) sz)) 0 0 (va_A (clA o aw ar ak kI u) sz) := by
  refine mOfW (cc := cX1_flags) (maxL := 1) (ret := (some .int)) (by decide) rfl ?_
  intro p e s m args below meth c s₁ Q R hQ hR B hml hv
  obtain ⟨rfl, hsz, hP, hK, hD0, hZ⟩ := hv
  have hx := B.exec
  have hb := B.bytes
  have hr := B.returns
  have hts := atoms_spec (ws := Cond.code yX1_flags cX1_flags 1 (some .int) :: wAll) B.pre
  have hw : ∀ {w : Cond}, w ∈ wAll → w.before _ s = true := fun {w} h => hts w (List.mem_cons_of_mem _ h)
  have hown : s.vm.findClass RX1 = some m.cls := findClass_of_methodNamed B.named
  have hlocks := B.notSynchronized
  have hRf : 1 ≤ R.frames := by rw [hR]; exact Nat.le_refl _
  have hRl : 20 ≤ R.locals := by rw [hR]; exact Nat.le_refl _
  subst hsz
  have hD := hD0.self (sz := s.heap.size)
  generalize hAe : va_A (clA o aw ar ak kI u) s.heap.size = A at hD hZ hQ
  have hA : ∀ q : Nat, s.heap.size ≤ q → A q := fun q h => by rw [← hAe]; exact Or.inr h
  have hl := lv_entry ([.ref o]) (n := 1) (Nat.le_of_ble_eq_true rfl)
  rw [lg_entry_eq]
  generalize (lg_sl ([.ref o]) ++ List.replicate (1 - (lg_sl ([.ref o])).length) Slot.unset).toArray = ls at hl ⊢
  have hl : lv_has ls 1 [(0, .ref o)] := hl
  have hin0 : ∀ w ∈ u_ws RX1 TX1 7, w ∈ (Cond.code yX1_flags cX1_flags 1 (some .int) :: wAll) := fun w h => List.mem_cons_of_mem _ (w_flX1 w h)
  have hn45 : va_Nw (.methodLinkNest RX1 45 yX0_packed "MicroMill") s := hZ.2.2 _ (by decide +kernel)
  unfold fnA_flags at ht
  obtain ⟨H, hHe⟩ : ∃ H : Heap, H = s.heap := ⟨_, rfl⟩
  have hP : va_P D vwCl (clA o aw ar ak kI u) H := by rw [hHe]; exact hP
  have hS : va_S A s.heap H [] := by rw [hHe]; exact va_S.rf
  rw [← hHe]
  refine lv_aload_n hx hb dX1_flags_0 rfl (lv_at hl 0 rfl) ?_
  refine va_get (D := D) (ci := 1) (v := .ref ak) (C := RX1) (T := TX1) (N := 7) hx hb hts hin0 hown hK hP 0 rfl rfl 2 (by decide) (hw w_f_X1_19) (fun _ h9 => h9) rfl dX1_flags_1 ?_
  obtain ⟨r1, h2, ht⟩ := ob_some ht
  refine kW_i (u := u) (va_runVN (As := []) (rest := []) ⟨hx, hb, hml, hown, hts⟩ (ctW_packed l D kI ak H.size u.2.2.2.2.2.2  r1 h2) ⟨va_cnB 0 hts (gC w_co_yX0_packed) rfl rfl rfl hn45 (hw w_init_MicroMill_Work) (by decide +kernel) ⟨Nat.le_trans (Nat.le_of_ble_eq_true rfl) hRf, Nat.le_trans (Nat.le_of_ble_eq_true rfl) hRl⟩, hw w_im_yX0_packed, hw w_sel_yX0_packed⟩ (preG (cl := clW ak) (u := u.2.2.2.2.2.2) (N := 6) (ci := 0) hK (hP.sub (ws' := clW ak u.2.2.2.2.2.2) [3] rfl) ((hD.sub (ws' := clW ak u.2.2.2.2.2.2) [3] (by decide) rfl).weaken (fun _ _ _ _ => trivial)) rfl rfl _) rfl rfl hl.1 rfl (lv_room (Nat.le_of_ble_eq_true rfl)) dX1_flags_4 ⟨Nat.zero_le _, Nat.zero_le _⟩) hP hD hS hA (fun H locs hP hD hS => ?_)
  have hP : va_P D vwCl (clA o aw ar ak kI (u.1, u.2.1, u.2.2.1, u.2.2.2.1, u.2.2.2.2.1, u.2.2.2.2.2.1, r1.2)) H := hP
  have hD : va_D A (clA o aw ar ak kI (u.1, u.2.1, u.2.2.1, u.2.2.2.1, u.2.2.2.2.1, u.2.2.2.2.2.1, r1.2)) := hD
  have e9 := Option.some.inj ht
  subst hQ
  exact W.iret (v := r1.1) hx hb hr (fun t ht9 hW => ⟨⟨r1.1, (u.1, u.2.1, u.2.2.1, u.2.2.2.1, u.2.2.2.2.1, u.2.2.2.2.2.1, r1.2), rfl, ⟨congrArg Prod.fst e9, congrArg Prod.snd e9⟩, ⟨by rw [ht9]; exact hP, va_K.moved hW.alike hK, hD⟩⟩, hS.F ht9⟩) hS.2.2 dX1_flags_7
