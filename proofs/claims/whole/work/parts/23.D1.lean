def fnD_add (u : sD) (a1 : Int32) (a2 : Int32) : Option (Unit × sD) := if ixk a1 8 then (if ixk a1 8 then (some ((), (u.1, (upd u.2.1 a1.toNatClampNeg (((u.2.1 a1.toNatClampNeg) + a2) &&& (65535 : Int32))), u.2.2.1, u.2.2.2.1, u.2.2.2.2.1, u.2.2.2.2.2.1, u.2.2.2.2.2.2))) else none) else none
set_option maxRecDepth 100000 in
set_option maxHeartbeats 4000000 in
theorem ctD_add (l : Launch) (D : va_G) (kI : ClassId) (o aw ar : Nat) (sz : Nat) (u : sD) (a1 : Int32) (a2 : Int32) (tg : Unit × sD) (ht : fnD_add u a1 a2 = some tg) : Met l yX2_add (Cond.code yX2_add cX2_add 3 none :: wAll) ({ frames := 0, cells := 0, slots := 0, locals := 0 } : Room) (va_Pc [.ref o, .int a1, .int a2] (prG D kI (clD o aw ar kI) sz u)) (va_Qv (fun (v : sD) => v = tg.2) (poG D kI (clD o aw ar kI) (va_A (clD o aw ar kI u) sz)) (va_A (clD o aw ar kI u) sz)) 0 0 (va_A (clD o aw ar kI u) sz) := by
  refine mOfW (cc := cX2_add) (maxL := 3) (ret := none) (by decide) rfl ?_
  intro p e s m args below meth c s₁ Q R hQ hR B hml hv
  obtain ⟨rfl, hsz, hP, hK, hD0⟩ := hv
  have hx := B.exec
  have hb := B.bytes
  have hr := B.returns
  have hts := atoms_spec (ws := Cond.code yX2_add cX2_add 3 none :: wAll) B.pre
  have hw : ∀ {w : Cond}, w ∈ wAll → w.before _ s = true := fun {w} h => hts w (List.mem_cons_of_mem _ h)
  have hown : s.vm.findClass RX2 = some m.cls := findClass_of_methodNamed B.named
  have hlocks := B.notSynchronized
  have hRf : 0 ≤ R.frames := by rw [hR]; exact Nat.le_refl _
  have hRl : 0 ≤ R.locals := by rw [hR]; exact Nat.le_refl _
  subst hsz
  have hD := hD0.self (sz := s.heap.size)
  generalize hAe : va_A (clD o aw ar kI u) s.heap.size = A at hD  hQ
  have hA : ∀ q : Nat, s.heap.size ≤ q → A q := fun q h => by rw [← hAe]; exact Or.inr h
  have hl := lv_entry ([.ref o, .int a1, .int a2]) (n := 3) (Nat.le_of_ble_eq_true rfl)
  rw [lg_entry_eq]
  generalize (lg_sl ([.ref o, .int a1, .int a2]) ++ List.replicate (3 - (lg_sl ([.ref o, .int a1, .int a2])).length) Slot.unset).toArray = ls at hl ⊢
  have hl : lv_has ls 3 [(0, .ref o), (1, .int a1), (2, .int a2)] := hl
  have hin0 : ∀ w ∈ u_ws RX2 TX2 7, w ∈ (Cond.code yX2_add cX2_add 3 none :: wAll) := fun w h => List.mem_cons_of_mem _ (w_flX2 w h)
  unfold fnD_add at ht
  obtain ⟨H, hHe⟩ : ∃ H : Heap, H = s.heap := ⟨_, rfl⟩
  have hP : va_P D vwCl (clD o aw ar kI u) H := by rw [hHe]; exact hP
  have hS : va_S A s.heap H [] := by rw [hHe]; exact va_S.rf
  rw [← hHe]
  refine lv_aload_n hx hb dX2_add_0 rfl (lv_at hl 0 rfl) ?_
  refine va_get (D := D) (ci := 2) (v := .ref ar) (C := RX2) (T := TX2) (N := 7) hx hb hts hin0 hown hK hP 0 rfl rfl 1 (by decide) (hw w_f_X2_13) (fun _ h9 => h9) rfl dX2_add_1 ?_
  refine lv_iload_n hx hb dX2_add_4 rfl (lv_at hl 1 rfl) ?_
  refine lv_aload_n hx hb dX2_add_5 rfl (lv_at hl 0 rfl) ?_
  refine va_get (D := D) (ci := 2) (v := .ref ar) (C := RX2) (T := TX2) (N := 7) hx hb hts hin0 hown hK hP 0 rfl rfl 1 (by decide) (hw w_f_X2_13) (fun _ h9 => h9) rfl dX2_add_6 ?_
  refine lv_iload_n hx hb dX2_add_9 rfl (lv_at hl 1 rfl) ?_
  obtain ⟨b1, ht⟩ := oi_some ht
  refine va_iald hx hb hK hP 2 0 rfl rfl (ixk_in b1) dX2_add_10 ?_
  refine lv_iload_n hx hb dX2_add_11 rfl (lv_at hl 2 rfl) ?_
  refine lv_iadd hx hb dX2_add_12 ?_
  refine lv_ldc (v := (65535 : Int32)) hx hb hown (hw w_k_X2_16) dX2_add_13 ?_
  refine lv_iand hx hb dX2_add_15 ?_
  obtain ⟨b2, ht⟩ := oi_some ht
  refine va_iast hx hb hK hP hD hS 2 0 rfl rfl (ixk_in b2) dX2_add_16 (fun H locs hP hD hS => ?_)
  have hP : va_P D vwCl (clD o aw ar kI (u.1, (upd u.2.1 a1.toNatClampNeg (((u.2.1 a1.toNatClampNeg) + a2) &&& (65535 : Int32))), u.2.2.1, u.2.2.2.1, u.2.2.2.2.1, u.2.2.2.2.2.1, u.2.2.2.2.2.2)) H := hP
  have hD : va_D A (clD o aw ar kI (u.1, (upd u.2.1 a1.toNatClampNeg (((u.2.1 a1.toNatClampNeg) + a2) &&& (65535 : Int32))), u.2.2.1, u.2.2.2.1, u.2.2.2.2.1, u.2.2.2.2.2.1, u.2.2.2.2.2.2)) := hD
  have e9 := Option.some.inj ht
  subst hQ
  exact W.vret hx hb hr (fun t ht9 hW => ⟨⟨(u.1, (upd u.2.1 a1.toNatClampNeg (((u.2.1 a1.toNatClampNeg) + a2) &&& (65535 : Int32))), u.2.2.1, u.2.2.2.1, u.2.2.2.2.1, u.2.2.2.2.2.1, u.2.2.2.2.2.2), rfl, pr2 e9, ⟨by rw [ht9]; exact hP, va_K.moved hW.alike hK, hD⟩⟩, hS.F ht9⟩) hS.2.2 dX2_add_17
def fnD_word_54 (u : sD) (y0 : Int32) : Option (Int32 × sD) := some (y0, u)
def fnD_word_32 (u : sD) (x1 : Int32) (y0 : Int32) : Option (Int32 × sD) := if y0 ≤ 0 then (if ixk (x1 / (2 : Int32)) 2048 then (fnD_word_54 (u.1, u.2.1, u.2.2.1, y0, u.2.2.2.2.1, u.2.2.2.2.2.1, u.2.2.2.2.2.2) (u.1 (x1 / (2 : Int32)).toNatClampNeg)) else none) else (fnD_word_54 (u.1, u.2.1, u.2.2.1, y0, u.2.2.2.2.1, u.2.2.2.2.2.1, u.2.2.2.2.2.2) (0 : Int32))
def fnD_word (u : sD) (a1 : Int32) : Option (Int32 × sD) := if u.2.2.2.1 ≤ 0 then (if (a1 - a1 / (2 : Int32) * (2 : Int32)) = 0 then (if a1 < (4096 : Int32) then (fnD_word_32 u a1 (0 : Int32)) else (fnD_word_32 u a1 (4 : Int32))) else (fnD_word_32 u a1 (3 : Int32))) else (some ((0 : Int32), u))
set_option maxRecDepth 100000 in
set_option maxHeartbeats 4000000 in
theorem ctD_word (l : Launch) (D : va_G) (kI : ClassId) (o aw ar : Nat) (sz : Nat) (u : sD) (a1 : Int32) (tg : Int32 × sD) (ht : fnD_word u a1 = some tg) : Met l yX2_word (Cond.code yX2_word cX2_word 2 (some .int) :: wAll) ({ frames := 0, cells := 0, slots := 0, locals := 0 } : Room) (va_Pc [.ref o, .int a1] (prG D kI (clD o aw ar kI) sz u)) (va_Qi (fun (x : Int32) (v : sD) => x = tg.1 ∧ v = tg.2) (poG D kI (clD o aw ar kI) (va_A (clD o aw ar kI u) sz)) (va_A (clD o aw ar kI u) sz)) 0 0 (va_A (clD o aw ar kI u) sz) := by
  refine mOfW (cc := cX2_word) (maxL := 2) (ret := (some .int)) (by decide) rfl ?_
  intro p e s m args below meth c s₁ Q R hQ hR B hml hv
  obtain ⟨rfl, hsz, hP, hK, hD0⟩ := hv
  have hx := B.exec
  have hb := B.bytes
  have hr := B.returns
  have hts := atoms_spec (ws := Cond.code yX2_word cX2_word 2 (some .int) :: wAll) B.pre
  have hw : ∀ {w : Cond}, w ∈ wAll → w.before _ s = true := fun {w} h => hts w (List.mem_cons_of_mem _ h)
  have hown : s.vm.findClass RX2 = some m.cls := findClass_of_methodNamed B.named
  have hlocks := B.notSynchronized
  have hRf : 0 ≤ R.frames := by rw [hR]; exact Nat.le_refl _
  have hRl : 0 ≤ R.locals := by rw [hR]; exact Nat.le_refl _
  subst hsz
  have hD := hD0.self (sz := s.heap.size)
  generalize hAe : va_A (clD o aw ar kI u) s.heap.size = A at hD  hQ
  have hA : ∀ q : Nat, s.heap.size ≤ q → A q := fun q h => by rw [← hAe]; exact Or.inr h
  have hl := lv_entry ([.ref o, .int a1]) (n := 2) (Nat.le_of_ble_eq_true rfl)
  rw [lg_entry_eq]
  generalize (lg_sl ([.ref o, .int a1]) ++ List.replicate (2 - (lg_sl ([.ref o, .int a1])).length) Slot.unset).toArray = ls at hl ⊢
  have hl : lv_has ls 2 [(0, .ref o), (1, .int a1)] := hl
  have hin0 : ∀ w ∈ u_ws RX2 TX2 7, w ∈ (Cond.code yX2_word cX2_word 2 (some .int) :: wAll) := fun w h => List.mem_cons_of_mem _ (w_flX2 w h)
  have K54 : ∀ (H : Heap) (locs : List Loc) (ls : Array Slot) (u : sD) (y0 : Int32) , va_P D vwCl (clD o aw ar kI u) H → va_D A (clD o aw ar kI u) → va_S A s.heap H locs → lv_has ls 2 [] → fnD_word_54 u y0 = some tg → W p l e R s m ([.ref o, .int a1] : List Value).toArray below meth c H locs 0 0 Q (F0 m 54 ls [.int y0]) := by
    intro H locs ls u y0 hP hD hS hl ht
    unfold fnD_word_54 at ht
    have e9 := Option.some.inj ht
    subst hQ
    exact W.iret (v := y0) hx hb hr (fun t ht9 hW => ⟨⟨y0, u, rfl, ⟨pr1 e9, pr2 e9⟩, ⟨by rw [ht9]; exact hP, va_K.moved hW.alike hK, hD⟩⟩, hS.F ht9⟩) hS.2.2 dX2_word_54
  have K32 : ∀ (H : Heap) (locs : List Loc) (ls : Array Slot) (u : sD) (x1 : Int32) (y0 : Int32) , va_P D vwCl (clD o aw ar kI u) H → va_D A (clD o aw ar kI u) → va_S A s.heap H locs → lv_has ls 2 [(0, .ref o), (1, .int x1)] → fnD_word_32 u x1 y0 = some tg → W p l e R s m ([.ref o, .int a1] : List Value).toArray below meth c H locs 0 0 Q (F0 m 32 ls [.int y0, .ref o]) := by
    intro H locs ls u x1 y0 hP hD hS hl ht
    unfold fnD_word_32 at ht
    refine va_put (D := D) (ci := 2) (v := .int y0) (ty := .int) (C := RX2) (T := TX2) (N := 7) hx hb hts hin0 tyX2 tyX2_ok nmX2 hown hK hP hD hS 0 rfl rfl 3 (by decide) (hw w_f_X2_25) (fun _ h9 => h9) rfl (by decide +kernel) rfl rfl (Nat.le_of_ble_eq_true rfl) dX2_word_32 (fun H locs hP hD hS => ?_)
    have hP : va_P D vwCl (clD o aw ar kI (u.1, u.2.1, u.2.2.1, y0, u.2.2.2.2.1, u.2.2.2.2.2.1, u.2.2.2.2.2.2)) H := hP
    have hD : va_D A (clD o aw ar kI (u.1, u.2.1, u.2.2.1, y0, u.2.2.2.2.1, u.2.2.2.2.2.1, u.2.2.2.2.2.2)) := hD
    refine lv_aload_n hx hb dX2_word_35 rfl (lv_at hl 0 rfl) ?_
    refine va_get (D := D) (ci := 2) (v := .int y0) (C := RX2) (T := TX2) (N := 7) hx hb hts hin0 hown hK hP 0 rfl rfl 3 (by decide) (hw w_f_X2_25) (fun _ h9 => h9) rfl dX2_word_36 ?_
    refine lv_if_le (tgt := 46) hx hb dX2_word_39 (by decide) (fun g4 => ?_) (fun g4 => ?_)
    · have ht := (if_pos g4).symm.trans ht
      refine lv_aload_n hx hb dX2_word_46 rfl (lv_at hl 0 rfl) ?_
      refine va_get (D := D) (ci := 2) (v := .ref aw) (C := RX2) (T := TX2) (N := 7) hx hb hts hin0 hown hK hP 0 rfl rfl 0 (by decide) (hw w_f_X2_7) (fun _ h9 => h9) rfl dX2_word_47 ?_
      refine lv_iload_n hx hb dX2_word_50 rfl (lv_at hl 1 rfl) ?_
      refine lv_iconst (v := (2 : Int32)) hx hb dX2_word_51 (by decide) ?_
      refine lv_idiv hx hb dX2_word_52 (by decide) ?_
      obtain ⟨b5, ht⟩ := oi_some ht
      refine va_iald hx hb hK hP 1 0 rfl rfl (ixk_in b5) dX2_word_53 ?_
      exact K54 _ _ _ (u.1, u.2.1, u.2.2.1, y0, u.2.2.2.2.1, u.2.2.2.2.2.1, u.2.2.2.2.2.2) (u.1 (x1 / (2 : Int32)).toNatClampNeg) hP hD hS (lv_sub hl [] rfl) ht
    · have ht := (if_neg g4).symm.trans ht
      refine lv_iconst (v := (0 : Int32)) hx hb dX2_word_42 (by decide) ?_
      refine lv_goto (tgt := 54) hx hb dX2_word_43 (by decide) ?_
      exact K54 _ _ _ (u.1, u.2.1, u.2.2.1, y0, u.2.2.2.2.1, u.2.2.2.2.2.1, u.2.2.2.2.2.2) (0 : Int32) hP hD hS (lv_sub hl [] rfl) ht
  unfold fnD_word at ht
  obtain ⟨H, hHe⟩ : ∃ H : Heap, H = s.heap := ⟨_, rfl⟩
  have hP : va_P D vwCl (clD o aw ar kI u) H := by rw [hHe]; exact hP
  have hS : va_S A s.heap H [] := by rw [hHe]; exact va_S.rf
  rw [← hHe]
  refine lv_aload_n hx hb dX2_word_0 rfl (lv_at hl 0 rfl) ?_
  refine va_get (D := D) (ci := 2) (v := .int u.2.2.2.1) (C := RX2) (T := TX2) (N := 7) hx hb hts hin0 hown hK hP 0 rfl rfl 3 (by decide) (hw w_f_X2_25) (fun _ h9 => h9) rfl dX2_word_1 ?_
  refine lv_if_le (tgt := 9) hx hb dX2_word_4 (by decide) (fun g1 => ?_) (fun g1 => ?_)
  · have ht := (if_pos g1).symm.trans ht
    refine lv_aload_n hx hb dX2_word_9 rfl (lv_at hl 0 rfl) ?_
    refine lv_iload_n hx hb dX2_word_10 rfl (lv_at hl 1 rfl) ?_
    refine lv_iconst (v := (2 : Int32)) hx hb dX2_word_11 (by decide) ?_
    refine lv_irem hx hb dX2_word_12 (by decide) ?_
    refine lv_if_eq (tgt := 20) hx hb dX2_word_13 (by decide) (fun g2 => ?_) (fun g2 => ?_)
    · have ht := (if_pos g2).symm.trans ht
      refine lv_iload_n hx hb dX2_word_20 rfl (lv_at hl 1 rfl) ?_
      refine lv_sipush (v := (4096 : Int32)) hx hb dX2_word_21 (by decide) ?_
      refine lv_icmp_lt (tgt := 31) hx hb dX2_word_24 (by decide) (fun g3 => ?_) (fun g3 => ?_)
      · have ht := (if_pos g3).symm.trans ht
        refine lv_iconst (v := (0 : Int32)) hx hb dX2_word_31 (by decide) ?_
        exact K32 _ _ _ u a1 (0 : Int32) hP hD hS (lv_sub hl [0, 1] rfl) ht
      · have ht := (if_neg g3).symm.trans ht
        refine lv_iconst (v := (4 : Int32)) hx hb dX2_word_27 (by decide) ?_
        refine lv_goto (tgt := 32) hx hb dX2_word_28 (by decide) ?_
        exact K32 _ _ _ u a1 (4 : Int32) hP hD hS (lv_sub hl [0, 1] rfl) ht
    · have ht := (if_neg g2).symm.trans ht
      refine lv_iconst (v := (3 : Int32)) hx hb dX2_word_16 (by decide) ?_
      refine lv_goto (tgt := 32) hx hb dX2_word_17 (by decide) ?_
      exact K32 _ _ _ u a1 (3 : Int32) hP hD hS (lv_sub hl [0, 1] rfl) ht
  · have ht := (if_neg g1).symm.trans ht
    refine lv_iconst (v := (0 : Int32)) hx hb dX2_word_7 (by decide) ?_
    have e9 := Option.some.inj ht
    subst hQ
    exact W.iret (v := (0 : Int32)) hx hb hr (fun t ht9 hW => ⟨⟨(0 : Int32), u, rfl, ⟨pr1 e9, pr2 e9⟩, ⟨by rw [ht9]; exact hP, va_K.moved hW.alike hK, hD⟩⟩, hS.F ht9⟩) hS.2.2 dX2_word_8
def fnD_back (u : sD) (a1 : Int32) : Option (Unit × sD) := if ixk (a1 &&& (7 : Int32)) 8 then (if ixk (7 : Int32) 8 then (if ixk (6 : Int32) 8 then ((fnD_add (u.1, (upd u.2.1 (7 : Int32).toNatClampNeg (u.2.1 (a1 &&& (7 : Int32)).toNatClampNeg)), u.2.2.1, u.2.2.2.1, u.2.2.2.2.1, u.2.2.2.2.2.1, u.2.2.2.2.2.2) (6 : Int32) (2 : Int32)).bind (fun r4 => (fnD_word r4.2 ((upd u.2.1 (7 : Int32).toNatClampNeg (u.2.1 (a1 &&& (7 : Int32)).toNatClampNeg)) (6 : Int32).toNatClampNeg)).bind (fun r6 => if r6.2.2.2.2.1 ≤ 0 then (if ixk (a1 &&& (7 : Int32)) 8 then (some ((), (r6.2.1, (upd r6.2.2.1 (a1 &&& (7 : Int32)).toNatClampNeg r6.1), r6.2.2.2.1, r6.2.2.2.2.1, r6.2.2.2.2.2.1, (r6.2.2.2.2.2.2.1 + (3 : Int32)), r6.2.2.2.2.2.2.2))) else none) else (some ((), r6.2))))) else none) else none) else none
set_option maxRecDepth 100000 in
set_option maxHeartbeats 4000000 in
theorem ctD_back (l : Launch) (D : va_G) (kI : ClassId) (o aw ar : Nat) (sz : Nat) (u : sD) (a1 : Int32) (tg : Unit × sD) (ht : fnD_back u a1 = some tg) : Met l yX2_back (Cond.code yX2_back cX2_back 5 none :: wAll) ({ frames := 1, cells := 0, slots := 0, locals := 22 } : Room) (va_Pc [.ref o, .int a1] (prG D kI (clD o aw ar kI) sz u)) (va_Qv (fun (v : sD) => v = tg.2) (poG D kI (clD o aw ar kI) (va_A (clD o aw ar kI u) sz)) (va_A (clD o aw ar kI u) sz)) 0 0 (va_A (clD o aw ar kI u) sz) := by
  refine mOfW (cc := cX2_back) (maxL := 5) (ret := none) (by decide) rfl ?_
  intro p e s m args below meth c s₁ Q R hQ hR B hml hv
  obtain ⟨rfl, hsz, hP, hK, hD0⟩ := hv
  have hx := B.exec
  have hb := B.bytes
  have hr := B.returns
  have hts := atoms_spec (ws := Cond.code yX2_back cX2_back 5 none :: wAll) B.pre
  have hw : ∀ {w : Cond}, w ∈ wAll → w.before _ s = true := fun {w} h => hts w (List.mem_cons_of_mem _ h)
  have hown : s.vm.findClass RX2 = some m.cls := findClass_of_methodNamed B.named
  have hlocks := B.notSynchronized
  have hRf : 1 ≤ R.frames := by rw [hR]; exact Nat.le_refl _
  have hRl : 22 ≤ R.locals := by rw [hR]; exact Nat.le_refl _
  subst hsz
  have hD := hD0.self (sz := s.heap.size)
  generalize hAe : va_A (clD o aw ar kI u) s.heap.size = A at hD  hQ
  have hA : ∀ q : Nat, s.heap.size ≤ q → A q := fun q h => by rw [← hAe]; exact Or.inr h
  have hl := lv_entry ([.ref o, .int a1]) (n := 5) (Nat.le_of_ble_eq_true rfl)
  rw [lg_entry_eq]
  generalize (lg_sl ([.ref o, .int a1]) ++ List.replicate (5 - (lg_sl ([.ref o, .int a1])).length) Slot.unset).toArray = ls at hl ⊢
  have hl : lv_has ls 5 [(0, .ref o), (1, .int a1)] := hl
  have hin0 : ∀ w ∈ u_ws RX2 TX2 7, w ∈ (Cond.code yX2_back cX2_back 5 none :: wAll) := fun w h => List.mem_cons_of_mem _ (w_flX2 w h)
  unfold fnD_back at ht
  obtain ⟨H, hHe⟩ : ∃ H : Heap, H = s.heap := ⟨_, rfl⟩
  have hP : va_P D vwCl (clD o aw ar kI u) H := by rw [hHe]; exact hP
  have hS : va_S A s.heap H [] := by rw [hHe]; exact va_S.rf
  rw [← hHe]
  refine lv_iload_n hx hb dX2_back_0 rfl (lv_at hl 1 rfl) ?_
  refine lv_bipush (v := (7 : Int32)) hx hb dX2_back_1 (by decide) ?_
  refine lv_iand hx hb dX2_back_3 ?_
  refine lv_istore_n (lv' := [(2, .int (a1 &&& (7 : Int32))), (0, .ref o), (1, .int a1)]) hx hb dX2_back_4 rfl hl (by decide) rfl (fun ls hl => ?_)
  refine lv_aload_n hx hb dX2_back_5 rfl (lv_at hl 1 rfl) ?_
  refine va_get (D := D) (ci := 2) (v := .ref ar) (C := RX2) (T := TX2) (N := 7) hx hb hts hin0 hown hK hP 0 rfl rfl 1 (by decide) (hw w_f_X2_13) (fun _ h9 => h9) rfl dX2_back_6 ?_
  refine lv_bipush (v := (7 : Int32)) hx hb dX2_back_9 (by decide) ?_
  refine lv_aload_n hx hb dX2_back_11 rfl (lv_at hl 1 rfl) ?_
  refine va_get (D := D) (ci := 2) (v := .ref ar) (C := RX2) (T := TX2) (N := 7) hx hb hts hin0 hown hK hP 0 rfl rfl 1 (by decide) (hw w_f_X2_13) (fun _ h9 => h9) rfl dX2_back_12 ?_
  refine lv_iload_n hx hb dX2_back_15 rfl (lv_at hl 0 rfl) ?_
  obtain ⟨b1, ht⟩ := oi_some ht
  refine va_iald hx hb hK hP 2 0 rfl rfl (ixk_in b1) dX2_back_16 ?_
  obtain ⟨b2, ht⟩ := oi_some ht
  refine va_iast hx hb hK hP hD hS 2 0 rfl rfl (ixk_in b2) dX2_back_17 (fun H locs hP hD hS => ?_)
  have hP : va_P D vwCl (clD o aw ar kI (u.1, (upd u.2.1 (7 : Int32).toNatClampNeg (u.2.1 (a1 &&& (7 : Int32)).toNatClampNeg)), u.2.2.1, u.2.2.2.1, u.2.2.2.2.1, u.2.2.2.2.2.1, u.2.2.2.2.2.2)) H := hP
  have hD : va_D A (clD o aw ar kI (u.1, (upd u.2.1 (7 : Int32).toNatClampNeg (u.2.1 (a1 &&& (7 : Int32)).toNatClampNeg)), u.2.2.1, u.2.2.2.1, u.2.2.2.2.1, u.2.2.2.2.2.1, u.2.2.2.2.2.2)) := hD
  refine lv_aload_n hx hb dX2_back_18 rfl (lv_at hl 1 rfl) ?_
  refine va_get (D := D) (ci := 2) (v := .ref ar) (C := RX2) (T := TX2) (N := 7) hx hb hts hin0 hown hK hP 0 rfl rfl 1 (by decide) (hw w_f_X2_13) (fun _ h9 => h9) rfl dX2_back_19 ?_
  refine lv_bipush (v := (6 : Int32)) hx hb dX2_back_22 (by decide) ?_
  obtain ⟨b3, ht⟩ := oi_some ht
  refine va_iald hx hb hK hP 2 0 rfl rfl (ixk_in b3) dX2_back_24 ?_
  refine lv_istore_n (lv' := [(3, .int ((upd u.2.1 (7 : Int32).toNatClampNeg (u.2.1 (a1 &&& (7 : Int32)).toNatClampNeg)) (6 : Int32).toNatClampNeg)), (2, .int (a1 &&& (7 : Int32))), (0, .ref o), (1, .int a1)]) hx hb dX2_back_25 rfl hl (by decide) rfl (fun ls hl => ?_)
  refine lv_aload_n hx hb dX2_back_26 rfl (lv_at hl 2 rfl) ?_
  refine lv_bipush (v := (6 : Int32)) hx hb dX2_back_27 (by decide) ?_
  refine lv_iconst (v := (2 : Int32)) hx hb dX2_back_29 (by decide) ?_
  obtain ⟨r4, h5, ht⟩ := ob_some ht
  refine kG_v (cl := clD o aw ar kI) (u := (u.1, (upd u.2.1 (7 : Int32).toNatClampNeg (u.2.1 (a1 &&& (7 : Int32)).toNatClampNeg)), u.2.2.1, u.2.2.2.1, u.2.2.2.2.1, u.2.2.2.2.2.1, u.2.2.2.2.2.2)) (va_runV (As := [.int (6 : Int32), .int (2 : Int32)]) (rest := []) ⟨hx, hb, hml, hown, hts⟩ (ctD_add l D kI o aw ar H.size (u.1, (upd u.2.1 (7 : Int32).toNatClampNeg (u.2.1 (a1 &&& (7 : Int32)).toNatClampNeg)), u.2.2.1, u.2.2.2.1, u.2.2.2.2.1, u.2.2.2.2.2.1, u.2.2.2.2.2.2) (6 : Int32) (2 : Int32) r4 h5) (cwV 2 hts (gV w_m_X2_28 w_im_yX2_add w_sel_yX2_add w_init_MicroMillModel w_co_yX2_add) rfl rfl rfl (by decide +kernel) ⟨Nat.le_trans (Nat.le_of_ble_eq_true rfl) hRf, Nat.le_trans (Nat.le_of_ble_eq_true rfl) hRl⟩) (preG (cl := clD o aw ar kI) (u := (u.1, (upd u.2.1 (7 : Int32).toNatClampNeg (u.2.1 (a1 &&& (7 : Int32)).toNatClampNeg)), u.2.2.1, u.2.2.2.1, u.2.2.2.2.1, u.2.2.2.2.2.1, u.2.2.2.2.2.2)) (N := 7) (ci := 2) hK hP (hD.weaken (fun _ _ _ _ => trivial)) rfl rfl _) rfl rfl hl.1 rfl (lv_room (Nat.le_of_ble_eq_true rfl)) dX2_back_30 ⟨Nat.zero_le _, Nat.zero_le _⟩) hD hS hA (fun H locs hP hD hS => ?_)
  refine lv_aload_n hx hb dX2_back_33 rfl (lv_at hl 2 rfl) ?_
  refine lv_iload_n hx hb dX2_back_34 rfl (lv_at hl 0 rfl) ?_
  obtain ⟨r6, h7, ht⟩ := ob_some ht
  refine kG_i (cl := clD o aw ar kI) (u := r4.2) (va_runV (As := [.int ((upd u.2.1 (7 : Int32).toNatClampNeg (u.2.1 (a1 &&& (7 : Int32)).toNatClampNeg)) (6 : Int32).toNatClampNeg)]) (rest := []) ⟨hx, hb, hml, hown, hts⟩ (ctD_word l D kI o aw ar H.size r4.2 ((upd u.2.1 (7 : Int32).toNatClampNeg (u.2.1 (a1 &&& (7 : Int32)).toNatClampNeg)) (6 : Int32).toNatClampNeg) r6 h7) (cwV 1 hts (gV w_m_X2_32 w_im_yX2_word w_sel_yX2_word w_init_MicroMillModel w_co_yX2_word) rfl rfl rfl (by decide +kernel) ⟨Nat.le_trans (Nat.le_of_ble_eq_true rfl) hRf, Nat.le_trans (Nat.le_of_ble_eq_true rfl) hRl⟩) (preG (cl := clD o aw ar kI) (u := r4.2) (N := 7) (ci := 2) hK hP (hD.weaken (fun _ _ _ _ => trivial)) rfl rfl _) rfl rfl hl.1 rfl (lv_room (Nat.le_of_ble_eq_true rfl)) dX2_back_35 ⟨Nat.zero_le _, Nat.zero_le _⟩) hD hS hA (fun H locs hP hD hS => ?_)
  refine lv_istore (lv' := [(4, .int r6.1), (3, .int ((upd u.2.1 (7 : Int32).toNatClampNeg (u.2.1 (a1 &&& (7 : Int32)).toNatClampNeg)) (6 : Int32).toNatClampNeg)), (2, .int (a1 &&& (7 : Int32))), (0, .ref o), (1, .int a1)]) hx hb dX2_back_38 hl (by decide) rfl (fun ls hl => ?_)
  refine lv_aload_n hx hb dX2_back_40 rfl (lv_at hl 3 rfl) ?_
  refine va_get (D := D) (ci := 2) (v := .int r6.2.2.2.2.1) (C := RX2) (T := TX2) (N := 7) hx hb hts hin0 hown hK hP 0 rfl rfl 3 (by decide) (hw w_f_X2_25) (fun _ h9 => h9) rfl dX2_back_41 ?_
  refine lv_if_le (tgt := 48) hx hb dX2_back_44 (by decide) (fun g8 => ?_) (fun g8 => ?_)
  · have ht := (if_pos g8).symm.trans ht
    refine lv_aload_n hx hb dX2_back_48 rfl (lv_at hl 3 rfl) ?_
    refine va_get (D := D) (ci := 2) (v := .ref ar) (C := RX2) (T := TX2) (N := 7) hx hb hts hin0 hown hK hP 0 rfl rfl 1 (by decide) (hw w_f_X2_13) (fun _ h9 => h9) rfl dX2_back_49 ?_
    refine lv_iload_n hx hb dX2_back_52 rfl (lv_at hl 2 rfl) ?_
    refine lv_iload hx hb dX2_back_53 (lv_at hl 0 rfl) ?_
    obtain ⟨b9, ht⟩ := oi_some ht
    refine va_iast hx hb hK hP hD hS 2 0 rfl rfl (ixk_in b9) dX2_back_55 (fun H locs hP hD hS => ?_)
    have hP : va_P D vwCl (clD o aw ar kI (r6.2.1, (upd r6.2.2.1 (a1 &&& (7 : Int32)).toNatClampNeg r6.1), r6.2.2.2.1, r6.2.2.2.2.1, r6.2.2.2.2.2.1, r6.2.2.2.2.2.2.1, r6.2.2.2.2.2.2.2)) H := hP
    have hD : va_D A (clD o aw ar kI (r6.2.1, (upd r6.2.2.1 (a1 &&& (7 : Int32)).toNatClampNeg r6.1), r6.2.2.2.1, r6.2.2.2.2.1, r6.2.2.2.2.2.1, r6.2.2.2.2.2.2.1, r6.2.2.2.2.2.2.2)) := hD
    refine lv_aload_n hx hb dX2_back_56 rfl (lv_at hl 3 rfl) ?_
    refine lv_dup hx hb dX2_back_57 rfl ?_
    refine va_get (D := D) (ci := 2) (v := .int r6.2.2.2.2.2.2.1) (C := RX2) (T := TX2) (N := 7) hx hb hts hin0 hown hK hP 0 rfl rfl 5 (by decide) (hw w_f_X2_39) (fun _ h9 => h9) rfl dX2_back_58 ?_
    refine lv_iconst (v := (3 : Int32)) hx hb dX2_back_61 (by decide) ?_
    refine lv_iadd hx hb dX2_back_62 ?_
    refine va_put (D := D) (ci := 2) (v := .int (r6.2.2.2.2.2.2.1 + (3 : Int32))) (ty := .int) (C := RX2) (T := TX2) (N := 7) hx hb hts hin0 tyX2 tyX2_ok nmX2 hown hK hP hD hS 0 rfl rfl 5 (by decide) (hw w_f_X2_39) (fun _ h9 => h9) rfl (by decide +kernel) rfl rfl (Nat.le_of_ble_eq_true rfl) dX2_back_63 (fun H locs hP hD hS => ?_)
    have hP : va_P D vwCl (clD o aw ar kI (r6.2.1, (upd r6.2.2.1 (a1 &&& (7 : Int32)).toNatClampNeg r6.1), r6.2.2.2.1, r6.2.2.2.2.1, r6.2.2.2.2.2.1, (r6.2.2.2.2.2.2.1 + (3 : Int32)), r6.2.2.2.2.2.2.2)) H := hP
    have hD : va_D A (clD o aw ar kI (r6.2.1, (upd r6.2.2.1 (a1 &&& (7 : Int32)).toNatClampNeg r6.1), r6.2.2.2.1, r6.2.2.2.2.1, r6.2.2.2.2.2.1, (r6.2.2.2.2.2.2.1 + (3 : Int32)), r6.2.2.2.2.2.2.2)) := hD
    have e9 := Option.some.inj ht
    subst hQ
    exact W.vret hx hb hr (fun t ht9 hW => ⟨⟨(r6.2.1, (upd r6.2.2.1 (a1 &&& (7 : Int32)).toNatClampNeg r6.1), r6.2.2.2.1, r6.2.2.2.2.1, r6.2.2.2.2.2.1, (r6.2.2.2.2.2.2.1 + (3 : Int32)), r6.2.2.2.2.2.2.2), rfl, pr2 e9, ⟨by rw [ht9]; exact hP, va_K.moved hW.alike hK, hD⟩⟩, hS.F ht9⟩) hS.2.2 dX2_back_66
  · have ht := (if_neg g8).symm.trans ht
    have e9 := Option.some.inj ht
    subst hQ
    exact W.vret hx hb hr (fun t ht9 hW => ⟨⟨r6.2, rfl, pr2 e9, ⟨by rw [ht9]; exact hP, va_K.moved hW.alike hK, hD⟩⟩, hS.F ht9⟩) hS.2.2 dX2_back_47
def fnD_isTrue_231 (u : sD) (y0 : Int32) : Option (Int32 × sD) := if bok y0 then (some (y0, u)) else none
def fnD_isTrue_226 (u : sD) : Option (Int32 × sD) := fnD_isTrue_231 u (1 : Int32)
def fnD_isTrue_221 (u : sD) (x6 : Int32) (y0 : Int32) : Option (Int32 × sD) := if y0 = x6 then (fnD_isTrue_226 u) else (fnD_isTrue_231 u (0 : Int32))
def fnD_isTrue_203 (u : sD) (x1 : Int32) (y0 : Int32) : Option (Int32 × sD) := if x1 = (1 : Int32) then (fnD_isTrue_226 u) else (if (x1 - x1 / (2 : Int32) * (2 : Int32)) = 0 then (fnD_isTrue_221 u y0 (1 : Int32)) else (fnD_isTrue_221 u y0 (0 : Int32)))
def fnD_isTrue_168 (u : sD) (x1 : Int32) : Option (Int32 × sD) := fnD_isTrue_203 u x1 (0 : Int32)
def fnD_isTrue_123 (u : sD) (x1 : Int32) : Option (Int32 × sD) := fnD_isTrue_203 u x1 (0 : Int32)
def fnD_isTrue_61 (u : sD) (x1 : Int32) (x2 : Int32) (x3 : Int32) (x4 : Int32) (y0 : Int32) : Option (Int32 × sD) := if (8 : Int32) ≤ x1 then (if (x1 / (2 : Int32)) = (64 : Int32) then (if x2 = 0 then (fnD_isTrue_203 u x1 (1 : Int32)) else (fnD_isTrue_203 u x1 (0 : Int32))) else (if (x1 / (2 : Int32)) = (65 : Int32) then (if y0 = 0 then (if x3 = 0 then (fnD_isTrue_203 u x1 (1 : Int32)) else (fnD_isTrue_168 u x1)) else (fnD_isTrue_168 u x1)) else (if (x1 / (2 : Int32)) = (66 : Int32) then (if x4 = 0 then (fnD_isTrue_203 u x1 (1 : Int32)) else (fnD_isTrue_203 u x1 (0 : Int32))) else (if y0 = 0 then (fnD_isTrue_203 u x1 (1 : Int32)) else (fnD_isTrue_203 u x1 (0 : Int32)))))) else (if (x1 / (2 : Int32)) = (1 : Int32) then (if x3 = 0 then (fnD_isTrue_203 u x1 (1 : Int32)) else (fnD_isTrue_203 u x1 (0 : Int32))) else (if (x1 / (2 : Int32)) = (2 : Int32) then (if x2 = x4 then (fnD_isTrue_203 u x1 (1 : Int32)) else (fnD_isTrue_203 u x1 (0 : Int32))) else (if x3 = 0 then (if x2 = x4 then (fnD_isTrue_203 u x1 (1 : Int32)) else (fnD_isTrue_123 u x1)) else (fnD_isTrue_123 u x1))))
def fnD_isTrue_45 (u : sD) (x1 : Int32) (x2 : Int32) (x3 : Int32) (y0 : Int32) : Option (Int32 × sD) := if (u.2.2.1 &&& (1 : Int32)) = 0 then (fnD_isTrue_61 u x1 x2 x3 y0 (0 : Int32)) else (fnD_isTrue_61 u x1 x2 x3 y0 (1 : Int32))
def fnD_isTrue_30 (u : sD) (x1 : Int32) (x2 : Int32) (y0 : Int32) : Option (Int32 × sD) := if (u.2.2.1 &&& (2 : Int32)) = 0 then (fnD_isTrue_45 u x1 x2 y0 (0 : Int32)) else (fnD_isTrue_45 u x1 x2 y0 (1 : Int32))
def fnD_isTrue_15 (u : sD) (x1 : Int32) (y0 : Int32) : Option (Int32 × sD) := if (u.2.2.1 &&& (4 : Int32)) = 0 then (fnD_isTrue_30 u x1 y0 (0 : Int32)) else (fnD_isTrue_30 u x1 y0 (1 : Int32))
def fnD_isTrue (u : sD) (a1 : Int32) : Option (Int32 × sD) := if (u.2.2.1 &&& (8 : Int32)) = 0 then (fnD_isTrue_15 u a1 (0 : Int32)) else (fnD_isTrue_15 u a1 (1 : Int32))
set_option maxRecDepth 100000 in
set_option maxHeartbeats 4000000 in
theorem ctD_isTrue (l : Launch) (D : va_G) (kI : ClassId) (o aw ar : Nat) (sz : Nat) (u : sD) (a1 : Int32) (tg : Int32 × sD) (ht : fnD_isTrue u a1 = some tg) : Met l yX2_isTrue (Cond.code yX2_isTrue cX2_isTrue 7 (some .boolean) :: wAll) ({ frames := 0, cells := 0, slots := 0, locals := 0 } : Room) (va_Pc [.ref o, .int a1] (prG D kI (clD o aw ar kI) sz u)) (va_Qi (fun (x : Int32) (v : sD) => x = tg.1 ∧ v = tg.2) (poG D kI (clD o aw ar kI) (va_A (clD o aw ar kI u) sz)) (va_A (clD o aw ar kI u) sz)) 0 0 (va_A (clD o aw ar kI u) sz) := by
  refine mOfW (cc := cX2_isTrue) (maxL := 7) (ret := (some .boolean)) (by decide) rfl ?_
  intro p e s m args below meth c s₁ Q R hQ hR B hml hv
  obtain ⟨rfl, hsz, hP, hK, hD0⟩ := hv
  have hx := B.exec
  have hb := B.bytes
  have hr := B.returns
  have hts := atoms_spec (ws := Cond.code yX2_isTrue cX2_isTrue 7 (some .boolean) :: wAll) B.pre
  have hw : ∀ {w : Cond}, w ∈ wAll → w.before _ s = true := fun {w} h => hts w (List.mem_cons_of_mem _ h)
  have hown : s.vm.findClass RX2 = some m.cls := findClass_of_methodNamed B.named
  have hlocks := B.notSynchronized
  have hRf : 0 ≤ R.frames := by rw [hR]; exact Nat.le_refl _
  have hRl : 0 ≤ R.locals := by rw [hR]; exact Nat.le_refl _
  subst hsz
  have hD := hD0.self (sz := s.heap.size)
  generalize hAe : va_A (clD o aw ar kI u) s.heap.size = A at hD  hQ
  have hA : ∀ q : Nat, s.heap.size ≤ q → A q := fun q h => by rw [← hAe]; exact Or.inr h
  have hl := lv_entry ([.ref o, .int a1]) (n := 7) (Nat.le_of_ble_eq_true rfl)
  rw [lg_entry_eq]
  generalize (lg_sl ([.ref o, .int a1]) ++ List.replicate (7 - (lg_sl ([.ref o, .int a1])).length) Slot.unset).toArray = ls at hl ⊢
  have hl : lv_has ls 7 [(0, .ref o), (1, .int a1)] := hl
  have hin0 : ∀ w ∈ u_ws RX2 TX2 7, w ∈ (Cond.code yX2_isTrue cX2_isTrue 7 (some .boolean) :: wAll) := fun w h => List.mem_cons_of_mem _ (w_flX2 w h)
  have K231 : ∀ (H : Heap) (locs : List Loc) (ls : Array Slot) (u : sD) (y0 : Int32) , va_P D vwCl (clD o aw ar kI u) H → va_D A (clD o aw ar kI u) → va_S A s.heap H locs → lv_has ls 7 [] → fnD_isTrue_231 u y0 = some tg → W p l e R s m ([.ref o, .int a1] : List Value).toArray below meth c H locs 0 0 Q (F0 m 231 ls [.int y0]) := by
    intro H locs ls u y0 hP hD hS hl ht
    unfold fnD_isTrue_231 at ht
    obtain ⟨b23, ht⟩ := oi_some ht
    have e9 := Option.some.inj ht
    subst hQ
    exact W.zret (ty := .boolean) (v := y0) hx hb hr (bok_n b23) (fun t ht9 hW => ⟨⟨y0, u, rfl, ⟨pr1 e9, pr2 e9⟩, ⟨by rw [ht9]; exact hP, va_K.moved hW.alike hK, hD⟩⟩, hS.F ht9⟩) hS.2.2 dX2_isTrue_231
  have K226 : ∀ (H : Heap) (locs : List Loc) (ls : Array Slot) (u : sD) , va_P D vwCl (clD o aw ar kI u) H → va_D A (clD o aw ar kI u) → va_S A s.heap H locs → lv_has ls 7 [] → fnD_isTrue_226 u  = some tg → W p l e R s m ([.ref o, .int a1] : List Value).toArray below meth c H locs 0 0 Q (F0 m 226 ls []) := by
    intro H locs ls u  hP hD hS hl ht
    unfold fnD_isTrue_226 at ht
    refine lv_iconst (v := (1 : Int32)) hx hb dX2_isTrue_226 (by decide) ?_
    refine lv_goto (tgt := 231) hx hb dX2_isTrue_227 (by decide) ?_
    exact K231 _ _ _ u (1 : Int32) hP hD hS (lv_sub hl [] rfl) ht
  have K221 : ∀ (H : Heap) (locs : List Loc) (ls : Array Slot) (u : sD) (x6 : Int32) (y0 : Int32) , va_P D vwCl (clD o aw ar kI u) H → va_D A (clD o aw ar kI u) → va_S A s.heap H locs → lv_has ls 7 [(6, .int x6)] → fnD_isTrue_221 u x6 y0 = some tg → W p l e R s m ([.ref o, .int a1] : List Value).toArray below meth c H locs 0 0 Q (F0 m 221 ls [.int y0]) := by
    intro H locs ls u x6 y0 hP hD hS hl ht
    unfold fnD_isTrue_221 at ht
    refine lv_iload hx hb dX2_isTrue_221 (lv_at hl 0 rfl) ?_
    refine lv_icmp_ne (tgt := 230) hx hb dX2_isTrue_223 (by decide) (fun g22 => ?_) (fun g22 => ?_)
    · have ht := (if_neg g22).symm.trans ht
      refine lv_iconst (v := (0 : Int32)) hx hb dX2_isTrue_230 (by decide) ?_
      exact K231 _ _ _ u (0 : Int32) hP hD hS (lv_sub hl [] rfl) ht
    · have ht := (if_pos g22).symm.trans ht
      exact K226 _ _ _ u hP hD hS (lv_sub hl [] rfl) ht
  have K203 : ∀ (H : Heap) (locs : List Loc) (ls : Array Slot) (u : sD) (x1 : Int32) (y0 : Int32) , va_P D vwCl (clD o aw ar kI u) H → va_D A (clD o aw ar kI u) → va_S A s.heap H locs → lv_has ls 7 [(1, .int x1)] → fnD_isTrue_203 u x1 y0 = some tg → W p l e R s m ([.ref o, .int a1] : List Value).toArray below meth c H locs 0 0 Q (F0 m 203 ls [.int y0]) := by
    intro H locs ls u x1 y0 hP hD hS hl ht
    unfold fnD_isTrue_203 at ht
    refine lv_istore (lv' := [(6, .int y0), (1, .int x1)]) hx hb dX2_isTrue_203 hl (by decide) rfl (fun ls hl => ?_)
    refine lv_iload_n hx hb dX2_isTrue_205 rfl (lv_at hl 1 rfl) ?_
    refine lv_iconst (v := (1 : Int32)) hx hb dX2_isTrue_206 (by decide) ?_
    refine lv_icmp_eq (tgt := 226) hx hb dX2_isTrue_207 (by decide) (fun g20 => ?_) (fun g20 => ?_)
    · have ht := (if_pos g20).symm.trans ht
      exact K226 _ _ _ u hP hD hS (lv_sub hl [] rfl) ht
    · have ht := (if_neg g20).symm.trans ht
      refine lv_iload_n hx hb dX2_isTrue_210 rfl (lv_at hl 1 rfl) ?_
      refine lv_iconst (v := (2 : Int32)) hx hb dX2_isTrue_211 (by decide) ?_
      refine lv_irem hx hb dX2_isTrue_212 (by decide) ?_
      refine lv_if_ne (tgt := 220) hx hb dX2_isTrue_213 (by decide) (fun g21 => ?_) (fun g21 => ?_)
      · have ht := (if_neg g21).symm.trans ht
        refine lv_iconst (v := (0 : Int32)) hx hb dX2_isTrue_220 (by decide) ?_
        exact K221 _ _ _ u y0 (0 : Int32) hP hD hS (lv_sub hl [0] rfl) ht
      · have ht := (if_pos g21).symm.trans ht
        refine lv_iconst (v := (1 : Int32)) hx hb dX2_isTrue_216 (by decide) ?_
        refine lv_goto (tgt := 221) hx hb dX2_isTrue_217 (by decide) ?_
        exact K221 _ _ _ u y0 (1 : Int32) hP hD hS (lv_sub hl [0] rfl) ht
  have K168 : ∀ (H : Heap) (locs : List Loc) (ls : Array Slot) (u : sD) (x1 : Int32) , va_P D vwCl (clD o aw ar kI u) H → va_D A (clD o aw ar kI u) → va_S A s.heap H locs → lv_has ls 7 [(1, .int x1)] → fnD_isTrue_168 u x1 = some tg → W p l e R s m ([.ref o, .int a1] : List Value).toArray below meth c H locs 0 0 Q (F0 m 168 ls []) := by
    intro H locs ls u x1 hP hD hS hl ht
    unfold fnD_isTrue_168 at ht
    refine lv_iconst (v := (0 : Int32)) hx hb dX2_isTrue_168 (by decide) ?_
    refine lv_goto (tgt := 203) hx hb dX2_isTrue_169 (by decide) ?_
    exact K203 _ _ _ u x1 (0 : Int32) hP hD hS (lv_sub hl [0] rfl) ht
  have K123 : ∀ (H : Heap) (locs : List Loc) (ls : Array Slot) (u : sD) (x1 : Int32) , va_P D vwCl (clD o aw ar kI u) H → va_D A (clD o aw ar kI u) → va_S A s.heap H locs → lv_has ls 7 [(1, .int x1)] → fnD_isTrue_123 u x1 = some tg → W p l e R s m ([.ref o, .int a1] : List Value).toArray below meth c H locs 0 0 Q (F0 m 123 ls []) := by
    intro H locs ls u x1 hP hD hS hl ht
    unfold fnD_isTrue_123 at ht
    refine lv_iconst (v := (0 : Int32)) hx hb dX2_isTrue_123 (by decide) ?_
    refine lv_goto (tgt := 203) hx hb dX2_isTrue_124 (by decide) ?_
    exact K203 _ _ _ u x1 (0 : Int32) hP hD hS (lv_sub hl [0] rfl) ht
  have K61 : ∀ (H : Heap) (locs : List Loc) (ls : Array Slot) (u : sD) (x1 : Int32) (x2 : Int32) (x3 : Int32) (x4 : Int32) (y0 : Int32) , va_P D vwCl (clD o aw ar kI u) H → va_D A (clD o aw ar kI u) → va_S A s.heap H locs → lv_has ls 7 [(1, .int x1), (2, .int x2), (3, .int x3), (4, .int x4)] → fnD_isTrue_61 u x1 x2 x3 x4 y0 = some tg → W p l e R s m ([.ref o, .int a1] : List Value).toArray below meth c H locs 0 0 Q (F0 m 61 ls [.int y0]) := by
    intro H locs ls u x1 x2 x3 x4 y0 hP hD hS hl ht
    unfold fnD_isTrue_61 at ht
    refine lv_istore (lv' := [(5, .int y0), (1, .int x1), (2, .int x2), (3, .int x3), (4, .int x4)]) hx hb dX2_isTrue_61 hl (by decide) rfl (fun ls hl => ?_)
    refine lv_iload_n hx hb dX2_isTrue_63 rfl (lv_at hl 1 rfl) ?_
    refine lv_bipush (v := (8 : Int32)) hx hb dX2_isTrue_64 (by decide) ?_
    refine lv_icmp_ge (tgt := 127) hx hb dX2_isTrue_66 (by decide) (fun g5 => ?_) (fun g5 => ?_)
    · have ht := (if_pos g5).symm.trans ht
      refine lv_iload_n hx hb dX2_isTrue_127 rfl (lv_at hl 1 rfl) ?_
      refine lv_iconst (v := (2 : Int32)) hx hb dX2_isTrue_128 (by decide) ?_
      refine lv_idiv hx hb dX2_isTrue_129 (by decide) ?_
      refine lv_bipush (v := (64 : Int32)) hx hb dX2_isTrue_130 (by decide) ?_
      refine lv_icmp_ne (tgt := 147) hx hb dX2_isTrue_132 (by decide) (fun g6 => ?_) (fun g6 => ?_)
      · have ht := (if_neg g6).symm.trans ht
        refine lv_iload_n hx hb dX2_isTrue_147 rfl (lv_at hl 1 rfl) ?_
        refine lv_iconst (v := (2 : Int32)) hx hb dX2_isTrue_148 (by decide) ?_
        refine lv_idiv hx hb dX2_isTrue_149 (by decide) ?_
        refine lv_bipush (v := (65 : Int32)) hx hb dX2_isTrue_150 (by decide) ?_
        refine lv_icmp_ne (tgt := 172) hx hb dX2_isTrue_152 (by decide) (fun g7 => ?_) (fun g7 => ?_)
        · have ht := (if_neg g7).symm.trans ht
          refine lv_iload_n hx hb dX2_isTrue_172 rfl (lv_at hl 1 rfl) ?_
          refine lv_iconst (v := (2 : Int32)) hx hb dX2_isTrue_173 (by decide) ?_
          refine lv_idiv hx hb dX2_isTrue_174 (by decide) ?_
          refine lv_bipush (v := (66 : Int32)) hx hb dX2_isTrue_175 (by decide) ?_
          refine lv_icmp_ne (tgt := 193) hx hb dX2_isTrue_177 (by decide) (fun g8 => ?_) (fun g8 => ?_)
          · have ht := (if_neg g8).symm.trans ht
            refine lv_iload hx hb dX2_isTrue_193 (lv_at hl 0 rfl) ?_
            refine lv_if_ne (tgt := 202) hx hb dX2_isTrue_195 (by decide) (fun g9 => ?_) (fun g9 => ?_)
            · have ht := (if_neg g9).symm.trans ht
              refine lv_iconst (v := (0 : Int32)) hx hb dX2_isTrue_202 (by decide) ?_
              exact K203 _ _ _ u x1 (0 : Int32) hP hD hS (lv_sub hl [1] rfl) ht
            · have ht := (if_pos g9).symm.trans ht
              refine lv_iconst (v := (1 : Int32)) hx hb dX2_isTrue_198 (by decide) ?_
              refine lv_goto (tgt := 203) hx hb dX2_isTrue_199 (by decide) ?_
              exact K203 _ _ _ u x1 (1 : Int32) hP hD hS (lv_sub hl [1] rfl) ht
          · have ht := (if_pos g8).symm.trans ht
            refine lv_iload hx hb dX2_isTrue_180 (lv_at hl 4 rfl) ?_
            refine lv_if_ne (tgt := 189) hx hb dX2_isTrue_182 (by decide) (fun g10 => ?_) (fun g10 => ?_)
            · have ht := (if_neg g10).symm.trans ht
              refine lv_iconst (v := (0 : Int32)) hx hb dX2_isTrue_189 (by decide) ?_
              refine lv_goto (tgt := 203) hx hb dX2_isTrue_190 (by decide) ?_
              exact K203 _ _ _ u x1 (0 : Int32) hP hD hS (lv_sub hl [1] rfl) ht
            · have ht := (if_pos g10).symm.trans ht
              refine lv_iconst (v := (1 : Int32)) hx hb dX2_isTrue_185 (by decide) ?_
              refine lv_goto (tgt := 203) hx hb dX2_isTrue_186 (by decide) ?_
              exact K203 _ _ _ u x1 (1 : Int32) hP hD hS (lv_sub hl [1] rfl) ht
        · have ht := (if_pos g7).symm.trans ht
          refine lv_iload hx hb dX2_isTrue_155 (lv_at hl 0 rfl) ?_
          refine lv_if_ne (tgt := 168) hx hb dX2_isTrue_157 (by decide) (fun g11 => ?_) (fun g11 => ?_)
          · have ht := (if_neg g11).symm.trans ht
            exact K168 _ _ _ u x1 hP hD hS (lv_sub hl [1] rfl) ht
          · have ht := (if_pos g11).symm.trans ht
            refine lv_iload_n hx hb dX2_isTrue_160 rfl (lv_at hl 3 rfl) ?_
            refine lv_if_ne (tgt := 168) hx hb dX2_isTrue_161 (by decide) (fun g12 => ?_) (fun g12 => ?_)
            · have ht := (if_neg g12).symm.trans ht
              exact K168 _ _ _ u x1 hP hD hS (lv_sub hl [1] rfl) ht
            · have ht := (if_pos g12).symm.trans ht
              refine lv_iconst (v := (1 : Int32)) hx hb dX2_isTrue_164 (by decide) ?_
              refine lv_goto (tgt := 203) hx hb dX2_isTrue_165 (by decide) ?_
              exact K203 _ _ _ u x1 (1 : Int32) hP hD hS (lv_sub hl [1] rfl) ht
      · have ht := (if_pos g6).symm.trans ht
        refine lv_iload_n hx hb dX2_isTrue_135 rfl (lv_at hl 2 rfl) ?_
        refine lv_if_ne (tgt := 143) hx hb dX2_isTrue_136 (by decide) (fun g13 => ?_) (fun g13 => ?_)
        · have ht := (if_neg g13).symm.trans ht
          refine lv_iconst (v := (0 : Int32)) hx hb dX2_isTrue_143 (by decide) ?_
          refine lv_goto (tgt := 203) hx hb dX2_isTrue_144 (by decide) ?_
          exact K203 _ _ _ u x1 (0 : Int32) hP hD hS (lv_sub hl [1] rfl) ht
        · have ht := (if_pos g13).symm.trans ht
          refine lv_iconst (v := (1 : Int32)) hx hb dX2_isTrue_139 (by decide) ?_
          refine lv_goto (tgt := 203) hx hb dX2_isTrue_140 (by decide) ?_
          exact K203 _ _ _ u x1 (1 : Int32) hP hD hS (lv_sub hl [1] rfl) ht
    · have ht := (if_neg g5).symm.trans ht
      refine lv_iload_n hx hb dX2_isTrue_69 rfl (lv_at hl 1 rfl) ?_
      refine lv_iconst (v := (2 : Int32)) hx hb dX2_isTrue_70 (by decide) ?_
      refine lv_idiv hx hb dX2_isTrue_71 (by decide) ?_
      refine lv_iconst (v := (1 : Int32)) hx hb dX2_isTrue_72 (by decide) ?_
      refine lv_icmp_ne (tgt := 88) hx hb dX2_isTrue_73 (by decide) (fun g14 => ?_) (fun g14 => ?_)
      · have ht := (if_neg g14).symm.trans ht
        refine lv_iload_n hx hb dX2_isTrue_88 rfl (lv_at hl 1 rfl) ?_
        refine lv_iconst (v := (2 : Int32)) hx hb dX2_isTrue_89 (by decide) ?_
        refine lv_idiv hx hb dX2_isTrue_90 (by decide) ?_
        refine lv_iconst (v := (2 : Int32)) hx hb dX2_isTrue_91 (by decide) ?_
        refine lv_icmp_ne (tgt := 109) hx hb dX2_isTrue_92 (by decide) (fun g15 => ?_) (fun g15 => ?_)
        · have ht := (if_neg g15).symm.trans ht
          refine lv_iload_n hx hb dX2_isTrue_109 rfl (lv_at hl 3 rfl) ?_
          refine lv_if_ne (tgt := 123) hx hb dX2_isTrue_110 (by decide) (fun g16 => ?_) (fun g16 => ?_)
          · have ht := (if_neg g16).symm.trans ht
            exact K123 _ _ _ u x1 hP hD hS (lv_sub hl [1] rfl) ht
          · have ht := (if_pos g16).symm.trans ht
            refine lv_iload_n hx hb dX2_isTrue_113 rfl (lv_at hl 2 rfl) ?_
            refine lv_iload hx hb dX2_isTrue_114 (lv_at hl 4 rfl) ?_
            refine lv_icmp_ne (tgt := 123) hx hb dX2_isTrue_116 (by decide) (fun g17 => ?_) (fun g17 => ?_)
            · have ht := (if_neg g17).symm.trans ht
              exact K123 _ _ _ u x1 hP hD hS (lv_sub hl [1] rfl) ht
            · have ht := (if_pos g17).symm.trans ht
              refine lv_iconst (v := (1 : Int32)) hx hb dX2_isTrue_119 (by decide) ?_
              refine lv_goto (tgt := 203) hx hb dX2_isTrue_120 (by decide) ?_
              exact K203 _ _ _ u x1 (1 : Int32) hP hD hS (lv_sub hl [1] rfl) ht
        · have ht := (if_pos g15).symm.trans ht
          refine lv_iload_n hx hb dX2_isTrue_95 rfl (lv_at hl 2 rfl) ?_
          refine lv_iload hx hb dX2_isTrue_96 (lv_at hl 4 rfl) ?_
          refine lv_icmp_ne (tgt := 105) hx hb dX2_isTrue_98 (by decide) (fun g18 => ?_) (fun g18 => ?_)
          · have ht := (if_neg g18).symm.trans ht
            refine lv_iconst (v := (0 : Int32)) hx hb dX2_isTrue_105 (by decide) ?_
            refine lv_goto (tgt := 203) hx hb dX2_isTrue_106 (by decide) ?_
            exact K203 _ _ _ u x1 (0 : Int32) hP hD hS (lv_sub hl [1] rfl) ht
          · have ht := (if_pos g18).symm.trans ht
            refine lv_iconst (v := (1 : Int32)) hx hb dX2_isTrue_101 (by decide) ?_
            refine lv_goto (tgt := 203) hx hb dX2_isTrue_102 (by decide) ?_
            exact K203 _ _ _ u x1 (1 : Int32) hP hD hS (lv_sub hl [1] rfl) ht
      · have ht := (if_pos g14).symm.trans ht
        refine lv_iload_n hx hb dX2_isTrue_76 rfl (lv_at hl 3 rfl) ?_
        refine lv_if_ne (tgt := 84) hx hb dX2_isTrue_77 (by decide) (fun g19 => ?_) (fun g19 => ?_)
        · have ht := (if_neg g19).symm.trans ht
          refine lv_iconst (v := (0 : Int32)) hx hb dX2_isTrue_84 (by decide) ?_
          refine lv_goto (tgt := 203) hx hb dX2_isTrue_85 (by decide) ?_
          exact K203 _ _ _ u x1 (0 : Int32) hP hD hS (lv_sub hl [1] rfl) ht
        · have ht := (if_pos g19).symm.trans ht
          refine lv_iconst (v := (1 : Int32)) hx hb dX2_isTrue_80 (by decide) ?_
          refine lv_goto (tgt := 203) hx hb dX2_isTrue_81 (by decide) ?_
          exact K203 _ _ _ u x1 (1 : Int32) hP hD hS (lv_sub hl [1] rfl) ht
  have K45 : ∀ (H : Heap) (locs : List Loc) (ls : Array Slot) (u : sD) (x1 : Int32) (x2 : Int32) (x3 : Int32) (y0 : Int32) , va_P D vwCl (clD o aw ar kI u) H → va_D A (clD o aw ar kI u) → va_S A s.heap H locs → lv_has ls 7 [(0, .ref o), (1, .int x1), (2, .int x2), (3, .int x3)] → fnD_isTrue_45 u x1 x2 x3 y0 = some tg → W p l e R s m ([.ref o, .int a1] : List Value).toArray below meth c H locs 0 0 Q (F0 m 45 ls [.int y0]) := by
    intro H locs ls u x1 x2 x3 y0 hP hD hS hl ht
    unfold fnD_isTrue_45 at ht
    refine lv_istore (lv' := [(4, .int y0), (0, .ref o), (1, .int x1), (2, .int x2), (3, .int x3)]) hx hb dX2_isTrue_45 hl (by decide) rfl (fun ls hl => ?_)
    refine lv_aload_n hx hb dX2_isTrue_47 rfl (lv_at hl 1 rfl) ?_
    refine va_get (D := D) (ci := 2) (v := .int u.2.2.1) (C := RX2) (T := TX2) (N := 7) hx hb hts hin0 hown hK hP 0 rfl rfl 2 (by decide) (hw w_f_X2_17) (fun _ h9 => h9) rfl dX2_isTrue_48 ?_
    refine lv_iconst (v := (1 : Int32)) hx hb dX2_isTrue_51 (by decide) ?_
    refine lv_iand hx hb dX2_isTrue_52 ?_
    refine lv_if_eq (tgt := 60) hx hb dX2_isTrue_53 (by decide) (fun g4 => ?_) (fun g4 => ?_)
    · have ht := (if_pos g4).symm.trans ht
      refine lv_iconst (v := (0 : Int32)) hx hb dX2_isTrue_60 (by decide) ?_
      exact K61 _ _ _ u x1 x2 x3 y0 (0 : Int32) hP hD hS (lv_sub hl [2, 3, 4, 0] rfl) ht
    · have ht := (if_neg g4).symm.trans ht
      refine lv_iconst (v := (1 : Int32)) hx hb dX2_isTrue_56 (by decide) ?_
      refine lv_goto (tgt := 61) hx hb dX2_isTrue_57 (by decide) ?_
      exact K61 _ _ _ u x1 x2 x3 y0 (1 : Int32) hP hD hS (lv_sub hl [2, 3, 4, 0] rfl) ht
  have K30 : ∀ (H : Heap) (locs : List Loc) (ls : Array Slot) (u : sD) (x1 : Int32) (x2 : Int32) (y0 : Int32) , va_P D vwCl (clD o aw ar kI u) H → va_D A (clD o aw ar kI u) → va_S A s.heap H locs → lv_has ls 7 [(0, .ref o), (1, .int x1), (2, .int x2)] → fnD_isTrue_30 u x1 x2 y0 = some tg → W p l e R s m ([.ref o, .int a1] : List Value).toArray below meth c H locs 0 0 Q (F0 m 30 ls [.int y0]) := by
    intro H locs ls u x1 x2 y0 hP hD hS hl ht
    unfold fnD_isTrue_30 at ht
    refine lv_istore_n (lv' := [(3, .int y0), (0, .ref o), (1, .int x1), (2, .int x2)]) hx hb dX2_isTrue_30 rfl hl (by decide) rfl (fun ls hl => ?_)
    refine lv_aload_n hx hb dX2_isTrue_31 rfl (lv_at hl 1 rfl) ?_
    refine va_get (D := D) (ci := 2) (v := .int u.2.2.1) (C := RX2) (T := TX2) (N := 7) hx hb hts hin0 hown hK hP 0 rfl rfl 2 (by decide) (hw w_f_X2_17) (fun _ h9 => h9) rfl dX2_isTrue_32 ?_
    refine lv_iconst (v := (2 : Int32)) hx hb dX2_isTrue_35 (by decide) ?_
    refine lv_iand hx hb dX2_isTrue_36 ?_
    refine lv_if_eq (tgt := 44) hx hb dX2_isTrue_37 (by decide) (fun g3 => ?_) (fun g3 => ?_)
    · have ht := (if_pos g3).symm.trans ht
      refine lv_iconst (v := (0 : Int32)) hx hb dX2_isTrue_44 (by decide) ?_
      exact K45 _ _ _ u x1 x2 y0 (0 : Int32) hP hD hS (lv_sub hl [1, 2, 3, 0] rfl) ht
    · have ht := (if_neg g3).symm.trans ht
      refine lv_iconst (v := (1 : Int32)) hx hb dX2_isTrue_40 (by decide) ?_
      refine lv_goto (tgt := 45) hx hb dX2_isTrue_41 (by decide) ?_
      exact K45 _ _ _ u x1 x2 y0 (1 : Int32) hP hD hS (lv_sub hl [1, 2, 3, 0] rfl) ht
  have K15 : ∀ (H : Heap) (locs : List Loc) (ls : Array Slot) (u : sD) (x1 : Int32) (y0 : Int32) , va_P D vwCl (clD o aw ar kI u) H → va_D A (clD o aw ar kI u) → va_S A s.heap H locs → lv_has ls 7 [(0, .ref o), (1, .int x1)] → fnD_isTrue_15 u x1 y0 = some tg → W p l e R s m ([.ref o, .int a1] : List Value).toArray below meth c H locs 0 0 Q (F0 m 15 ls [.int y0]) := by
    intro H locs ls u x1 y0 hP hD hS hl ht
    unfold fnD_isTrue_15 at ht
    refine lv_istore_n (lv' := [(2, .int y0), (0, .ref o), (1, .int x1)]) hx hb dX2_isTrue_15 rfl hl (by decide) rfl (fun ls hl => ?_)
    refine lv_aload_n hx hb dX2_isTrue_16 rfl (lv_at hl 1 rfl) ?_
    refine va_get (D := D) (ci := 2) (v := .int u.2.2.1) (C := RX2) (T := TX2) (N := 7) hx hb hts hin0 hown hK hP 0 rfl rfl 2 (by decide) (hw w_f_X2_17) (fun _ h9 => h9) rfl dX2_isTrue_17 ?_
    refine lv_iconst (v := (4 : Int32)) hx hb dX2_isTrue_20 (by decide) ?_
    refine lv_iand hx hb dX2_isTrue_21 ?_
    refine lv_if_eq (tgt := 29) hx hb dX2_isTrue_22 (by decide) (fun g2 => ?_) (fun g2 => ?_)
    · have ht := (if_pos g2).symm.trans ht
      refine lv_iconst (v := (0 : Int32)) hx hb dX2_isTrue_29 (by decide) ?_
      exact K30 _ _ _ u x1 y0 (0 : Int32) hP hD hS (lv_sub hl [1, 2, 0] rfl) ht
    · have ht := (if_neg g2).symm.trans ht
      refine lv_iconst (v := (1 : Int32)) hx hb dX2_isTrue_25 (by decide) ?_
      refine lv_goto (tgt := 30) hx hb dX2_isTrue_26 (by decide) ?_
      exact K30 _ _ _ u x1 y0 (1 : Int32) hP hD hS (lv_sub hl [1, 2, 0] rfl) ht
  unfold fnD_isTrue at ht
  obtain ⟨H, hHe⟩ : ∃ H : Heap, H = s.heap := ⟨_, rfl⟩
  have hP : va_P D vwCl (clD o aw ar kI u) H := by rw [hHe]; exact hP
  have hS : va_S A s.heap H [] := by rw [hHe]; exact va_S.rf
  rw [← hHe]
  refine lv_aload_n hx hb dX2_isTrue_0 rfl (lv_at hl 0 rfl) ?_
  refine va_get (D := D) (ci := 2) (v := .int u.2.2.1) (C := RX2) (T := TX2) (N := 7) hx hb hts hin0 hown hK hP 0 rfl rfl 2 (by decide) (hw w_f_X2_17) (fun _ h9 => h9) rfl dX2_isTrue_1 ?_
  refine lv_bipush (v := (8 : Int32)) hx hb dX2_isTrue_4 (by decide) ?_
  refine lv_iand hx hb dX2_isTrue_6 ?_
  refine lv_if_eq (tgt := 14) hx hb dX2_isTrue_7 (by decide) (fun g1 => ?_) (fun g1 => ?_)
  · have ht := (if_pos g1).symm.trans ht
    refine lv_iconst (v := (0 : Int32)) hx hb dX2_isTrue_14 (by decide) ?_
    exact K15 _ _ _ u a1 (0 : Int32) hP hD hS (lv_sub hl [0, 1] rfl) ht
  · have ht := (if_neg g1).symm.trans ht
    refine lv_iconst (v := (1 : Int32)) hx hb dX2_isTrue_10 (by decide) ?_
    refine lv_goto (tgt := 15) hx hb dX2_isTrue_11 (by decide) ?_
    exact K15 _ _ _ u a1 (1 : Int32) hP hD hS (lv_sub hl [0, 1] rfl) ht
def fnD_branch_57 (u : sD) (y0 : Int32) (y1 : Int32) (y2 : Int32) : Option (Unit × sD) := (fnD_add u y2 (y1 * y0)).bind (fun r5 => some ((), r5.2))
def fnD_branch (u : sD) (a1 : Int32) : Option (Unit × sD) := (fnD_isTrue (u.1, u.2.1, u.2.2.1, u.2.2.2.1, u.2.2.2.2.1, (u.2.2.2.2.2.1 + (1 : Int32)), u.2.2.2.2.2.2) (a1 >>> ((8 : Int32) &&& 31))).bind (fun r1 => if r1.1 = 0 then (some ((), r1.2)) else (if (a1 &&& (255 : Int32)) ≤ (127 : Int32) then (fnD_branch_57 (r1.2.1, r1.2.2.1, r1.2.2.2.1, r1.2.2.2.2.1, r1.2.2.2.2.2.1, (r1.2.2.2.2.2.2.1 + (1 : Int32)), r1.2.2.2.2.2.2.2) (a1 &&& (255 : Int32)) (2 : Int32) (7 : Int32)) else (fnD_branch_57 (r1.2.1, r1.2.2.1, r1.2.2.2.1, r1.2.2.2.2.1, r1.2.2.2.2.2.1, (r1.2.2.2.2.2.2.1 + (1 : Int32)), r1.2.2.2.2.2.2.2) ((a1 &&& (255 : Int32)) - (256 : Int32)) (2 : Int32) (7 : Int32))))
set_option maxRecDepth 100000 in
set_option maxHeartbeats 4000000 in
theorem ctD_branch (l : Launch) (D : va_G) (kI : ClassId) (o aw ar : Nat) (sz : Nat) (u : sD) (a1 : Int32) (tg : Unit × sD) (ht : fnD_branch u a1 = some tg) : Met l yX2_branch (Cond.code yX2_branch cX2_branch 3 none :: wAll) ({ frames := 1, cells := 0, slots := 0, locals := 26 } : Room) (va_Pc [.ref o, .int a1] (prG D kI (clD o aw ar kI) sz u)) (va_Qv (fun (v : sD) => v = tg.2) (poG D kI (clD o aw ar kI) (va_A (clD o aw ar kI u) sz)) (va_A (clD o aw ar kI u) sz)) 0 0 (va_A (clD o aw ar kI u) sz) := by
  refine mOfW (cc := cX2_branch) (maxL := 3) (ret := none) (by decide) rfl ?_
  intro p e s m args below meth c s₁ Q R hQ hR B hml hv
  obtain ⟨rfl, hsz, hP, hK, hD0⟩ := hv
  have hx := B.exec
  have hb := B.bytes
  have hr := B.returns
  have hts := atoms_spec (ws := Cond.code yX2_branch cX2_branch 3 none :: wAll) B.pre
  have hw : ∀ {w : Cond}, w ∈ wAll → w.before _ s = true := fun {w} h => hts w (List.mem_cons_of_mem _ h)
  have hown : s.vm.findClass RX2 = some m.cls := findClass_of_methodNamed B.named
  have hlocks := B.notSynchronized
  have hRf : 1 ≤ R.frames := by rw [hR]; exact Nat.le_refl _
  have hRl : 26 ≤ R.locals := by rw [hR]; exact Nat.le_refl _
  subst hsz
  have hD := hD0.self (sz := s.heap.size)
  generalize hAe : va_A (clD o aw ar kI u) s.heap.size = A at hD  hQ
  have hA : ∀ q : Nat, s.heap.size ≤ q → A q := fun q h => by rw [← hAe]; exact Or.inr h
  have hl := lv_entry ([.ref o, .int a1]) (n := 3) (Nat.le_of_ble_eq_true rfl)
  rw [lg_entry_eq]
  generalize (lg_sl ([.ref o, .int a1]) ++ List.replicate (3 - (lg_sl ([.ref o, .int a1])).length) Slot.unset).toArray = ls at hl ⊢
  have hl : lv_has ls 3 [(0, .ref o), (1, .int a1)] := hl
  have hin0 : ∀ w ∈ u_ws RX2 TX2 7, w ∈ (Cond.code yX2_branch cX2_branch 3 none :: wAll) := fun w h => List.mem_cons_of_mem _ (w_flX2 w h)
  have K57 : ∀ (H : Heap) (locs : List Loc) (ls : Array Slot) (u : sD) (y0 : Int32) (y1 : Int32) (y2 : Int32) , va_P D vwCl (clD o aw ar kI u) H → va_D A (clD o aw ar kI u) → va_S A s.heap H locs → lv_has ls 3 [] → fnD_branch_57 u y0 y1 y2 = some tg → W p l e R s m ([.ref o, .int a1] : List Value).toArray below meth c H locs 0 0 Q (F0 m 57 ls [.int y0, .int y1, .int y2, .ref o]) := by
    intro H locs ls u y0 y1 y2 hP hD hS hl ht
    unfold fnD_branch_57 at ht
    refine lv_imul hx hb dX2_branch_57 ?_
    obtain ⟨r5, h6, ht⟩ := ob_some ht
    refine kG_v (cl := clD o aw ar kI) (u := u) (va_runV (As := [.int y2, .int (y1 * y0)]) (rest := []) ⟨hx, hb, hml, hown, hts⟩ (ctD_add l D kI o aw ar H.size u y2 (y1 * y0) r5 h6) (cwV 2 hts (gV w_m_X2_28 w_im_yX2_add w_sel_yX2_add w_init_MicroMillModel w_co_yX2_add) rfl rfl rfl (by decide +kernel) ⟨Nat.le_trans (Nat.le_of_ble_eq_true rfl) hRf, Nat.le_trans (Nat.le_of_ble_eq_true rfl) hRl⟩) (preG (cl := clD o aw ar kI) (u := u) (N := 7) (ci := 2) hK hP (hD.weaken (fun _ _ _ _ => trivial)) rfl rfl _) rfl rfl hl.1 rfl (lv_room (Nat.le_of_ble_eq_true rfl)) dX2_branch_58 ⟨Nat.zero_le _, Nat.zero_le _⟩) hD hS hA (fun H locs hP hD hS => ?_)
    have e9 := Option.some.inj ht
    subst hQ
    exact W.vret hx hb hr (fun t ht9 hW => ⟨⟨r5.2, rfl, pr2 e9, ⟨by rw [ht9]; exact hP, va_K.moved hW.alike hK, hD⟩⟩, hS.F ht9⟩) hS.2.2 dX2_branch_61
  unfold fnD_branch at ht
  obtain ⟨H, hHe⟩ : ∃ H : Heap, H = s.heap := ⟨_, rfl⟩
  have hP : va_P D vwCl (clD o aw ar kI u) H := by rw [hHe]; exact hP
  have hS : va_S A s.heap H [] := by rw [hHe]; exact va_S.rf
  rw [← hHe]
  refine lv_aload_n hx hb dX2_branch_0 rfl (lv_at hl 0 rfl) ?_
  refine lv_dup hx hb dX2_branch_1 rfl ?_
  refine va_get (D := D) (ci := 2) (v := .int u.2.2.2.2.2.1) (C := RX2) (T := TX2) (N := 7) hx hb hts hin0 hown hK hP 0 rfl rfl 5 (by decide) (hw w_f_X2_39) (fun _ h9 => h9) rfl dX2_branch_2 ?_
  refine lv_iconst (v := (1 : Int32)) hx hb dX2_branch_5 (by decide) ?_
  refine lv_iadd hx hb dX2_branch_6 ?_
  refine va_put (D := D) (ci := 2) (v := .int (u.2.2.2.2.2.1 + (1 : Int32))) (ty := .int) (C := RX2) (T := TX2) (N := 7) hx hb hts hin0 tyX2 tyX2_ok nmX2 hown hK hP hD hS 0 rfl rfl 5 (by decide) (hw w_f_X2_39) (fun _ h9 => h9) rfl (by decide +kernel) rfl rfl (Nat.le_of_ble_eq_true rfl) dX2_branch_7 (fun H locs hP hD hS => ?_)
  have hP : va_P D vwCl (clD o aw ar kI (u.1, u.2.1, u.2.2.1, u.2.2.2.1, u.2.2.2.2.1, (u.2.2.2.2.2.1 + (1 : Int32)), u.2.2.2.2.2.2)) H := hP
  have hD : va_D A (clD o aw ar kI (u.1, u.2.1, u.2.2.1, u.2.2.2.1, u.2.2.2.2.1, (u.2.2.2.2.2.1 + (1 : Int32)), u.2.2.2.2.2.2)) := hD
  refine lv_aload_n hx hb dX2_branch_10 rfl (lv_at hl 0 rfl) ?_
  refine lv_iload_n hx hb dX2_branch_11 rfl (lv_at hl 1 rfl) ?_
  refine lv_bipush (v := (8 : Int32)) hx hb dX2_branch_12 (by decide) ?_
  refine lv_ishr hx hb dX2_branch_14 ?_
  obtain ⟨r1, h2, ht⟩ := ob_some ht
  refine kG_i (cl := clD o aw ar kI) (u := (u.1, u.2.1, u.2.2.1, u.2.2.2.1, u.2.2.2.2.1, (u.2.2.2.2.2.1 + (1 : Int32)), u.2.2.2.2.2.2)) (va_runV (As := [.int (a1 >>> ((8 : Int32) &&& 31))]) (rest := []) ⟨hx, hb, hml, hown, hts⟩ (ctD_isTrue l D kI o aw ar H.size (u.1, u.2.1, u.2.2.1, u.2.2.2.1, u.2.2.2.2.1, (u.2.2.2.2.2.1 + (1 : Int32)), u.2.2.2.2.2.2) (a1 >>> ((8 : Int32) &&& 31)) r1 h2) (cwV 1 hts (gV w_m_X2_78 w_im_yX2_isTrue w_sel_yX2_isTrue w_init_MicroMillModel w_co_yX2_isTrue) rfl rfl rfl (by decide +kernel) ⟨Nat.le_trans (Nat.le_of_ble_eq_true rfl) hRf, Nat.le_trans (Nat.le_of_ble_eq_true rfl) hRl⟩) (preG (cl := clD o aw ar kI) (u := (u.1, u.2.1, u.2.2.1, u.2.2.2.1, u.2.2.2.2.1, (u.2.2.2.2.2.1 + (1 : Int32)), u.2.2.2.2.2.2)) (N := 7) (ci := 2) hK hP (hD.weaken (fun _ _ _ _ => trivial)) rfl rfl _) rfl rfl hl.1 rfl (lv_room (Nat.le_of_ble_eq_true rfl)) dX2_branch_15 ⟨Nat.zero_le _, Nat.zero_le _⟩) hD hS hA (fun H locs hP hD hS => ?_)
  refine lv_if_ne (tgt := 22) hx hb dX2_branch_18 (by decide) (fun g3 => ?_) (fun g3 => ?_)
  · have ht := (if_neg g3).symm.trans ht
    refine lv_aload_n hx hb dX2_branch_22 rfl (lv_at hl 0 rfl) ?_
    refine lv_dup hx hb dX2_branch_23 rfl ?_
    refine va_get (D := D) (ci := 2) (v := .int r1.2.2.2.2.2.2.1) (C := RX2) (T := TX2) (N := 7) hx hb hts hin0 hown hK hP 0 rfl rfl 5 (by decide) (hw w_f_X2_39) (fun _ h9 => h9) rfl dX2_branch_24 ?_
    refine lv_iconst (v := (1 : Int32)) hx hb dX2_branch_27 (by decide) ?_
    refine lv_iadd hx hb dX2_branch_28 ?_
    refine va_put (D := D) (ci := 2) (v := .int (r1.2.2.2.2.2.2.1 + (1 : Int32))) (ty := .int) (C := RX2) (T := TX2) (N := 7) hx hb hts hin0 tyX2 tyX2_ok nmX2 hown hK hP hD hS 0 rfl rfl 5 (by decide) (hw w_f_X2_39) (fun _ h9 => h9) rfl (by decide +kernel) rfl rfl (Nat.le_of_ble_eq_true rfl) dX2_branch_29 (fun H locs hP hD hS => ?_)
    have hP : va_P D vwCl (clD o aw ar kI (r1.2.1, r1.2.2.1, r1.2.2.2.1, r1.2.2.2.2.1, r1.2.2.2.2.2.1, (r1.2.2.2.2.2.2.1 + (1 : Int32)), r1.2.2.2.2.2.2.2)) H := hP
    have hD : va_D A (clD o aw ar kI (r1.2.1, r1.2.2.1, r1.2.2.2.1, r1.2.2.2.2.1, r1.2.2.2.2.2.1, (r1.2.2.2.2.2.2.1 + (1 : Int32)), r1.2.2.2.2.2.2.2)) := hD
    refine lv_iload_n hx hb dX2_branch_32 rfl (lv_at hl 1 rfl) ?_
    refine lv_sipush (v := (255 : Int32)) hx hb dX2_branch_33 (by decide) ?_
    refine lv_iand hx hb dX2_branch_36 ?_
    refine lv_istore_n (lv' := [(2, .int (a1 &&& (255 : Int32))), (0, .ref o), (1, .int a1)]) hx hb dX2_branch_37 rfl hl (by decide) rfl (fun ls hl => ?_)
    refine lv_aload_n hx hb dX2_branch_38 rfl (lv_at hl 1 rfl) ?_
    refine lv_bipush (v := (7 : Int32)) hx hb dX2_branch_39 (by decide) ?_
    refine lv_iconst (v := (2 : Int32)) hx hb dX2_branch_41 (by decide) ?_
    refine lv_iload_n hx hb dX2_branch_42 rfl (lv_at hl 0 rfl) ?_
    refine lv_bipush (v := (127 : Int32)) hx hb dX2_branch_43 (by decide) ?_
    refine lv_icmp_le (tgt := 56) hx hb dX2_branch_45 (by decide) (fun g4 => ?_) (fun g4 => ?_)
    · have ht := (if_pos g4).symm.trans ht
      refine lv_iload_n hx hb dX2_branch_56 rfl (lv_at hl 0 rfl) ?_
      exact K57 _ _ _ (r1.2.1, r1.2.2.1, r1.2.2.2.1, r1.2.2.2.2.1, r1.2.2.2.2.2.1, (r1.2.2.2.2.2.2.1 + (1 : Int32)), r1.2.2.2.2.2.2.2) (a1 &&& (255 : Int32)) (2 : Int32) (7 : Int32) hP hD hS (lv_sub hl [] rfl) ht
    · have ht := (if_neg g4).symm.trans ht
      refine lv_iload_n hx hb dX2_branch_48 rfl (lv_at hl 0 rfl) ?_
      refine lv_sipush (v := (256 : Int32)) hx hb dX2_branch_49 (by decide) ?_
      refine lv_isub hx hb dX2_branch_52 ?_
      refine lv_goto (tgt := 57) hx hb dX2_branch_53 (by decide) ?_
      exact K57 _ _ _ (r1.2.1, r1.2.2.1, r1.2.2.2.1, r1.2.2.2.2.1, r1.2.2.2.2.2.1, (r1.2.2.2.2.2.2.1 + (1 : Int32)), r1.2.2.2.2.2.2.2) ((a1 &&& (255 : Int32)) - (256 : Int32)) (2 : Int32) (7 : Int32) hP hD hS (lv_sub hl [] rfl) ht
  · have ht := (if_pos g3).symm.trans ht
    have e9 := Option.some.inj ht
    subst hQ
    exact W.vret hx hb hr (fun t ht9 hW => ⟨⟨r1.2, rfl, pr2 e9, ⟨by rw [ht9]; exact hP, va_K.moved hW.alike hK, hD⟩⟩, hS.F ht9⟩) hS.2.2 dX2_branch_21
def fnD_count (u : sD) (a1 : Int32) : Option (Unit × sD) := (fnD_add u ((a1 >>> ((6 : Int32) &&& 31)) &&& (7 : Int32)) (-1 : Int32)).bind (fun r1 => if ixk ((a1 >>> ((6 : Int32) &&& 31)) &&& (7 : Int32)) 8 then (if (r1.2.2.1 ((a1 >>> ((6 : Int32) &&& 31)) &&& (7 : Int32)).toNatClampNeg) = 0 then (some ((), (r1.2.1, r1.2.2.1, r1.2.2.2.1, r1.2.2.2.2.1, r1.2.2.2.2.2.1, (r1.2.2.2.2.2.2.1 + (2 : Int32)), r1.2.2.2.2.2.2.2))) else ((fnD_add (r1.2.1, r1.2.2.1, r1.2.2.2.1, r1.2.2.2.2.1, r1.2.2.2.2.2.1, ((r1.2.2.2.2.2.2.1 + (2 : Int32)) + (1 : Int32)), r1.2.2.2.2.2.2.2) (7 : Int32) ((-2 : Int32) * (a1 &&& (63 : Int32)))).bind (fun r5 => some ((), r5.2)))) else none)
set_option maxRecDepth 100000 in
set_option maxHeartbeats 4000000 in
theorem ctD_count (l : Launch) (D : va_G) (kI : ClassId) (o aw ar : Nat) (sz : Nat) (u : sD) (a1 : Int32) (tg : Unit × sD) (ht : fnD_count u a1 = some tg) : Met l yX2_count (Cond.code yX2_count cX2_count 3 none :: wAll) ({ frames := 1, cells := 0, slots := 0, locals := 22 } : Room) (va_Pc [.ref o, .int a1] (prG D kI (clD o aw ar kI) sz u)) (va_Qv (fun (v : sD) => v = tg.2) (poG D kI (clD o aw ar kI) (va_A (clD o aw ar kI u) sz)) (va_A (clD o aw ar kI u) sz)) 0 0 (va_A (clD o aw ar kI u) sz) := by
  refine mOfW (cc := cX2_count) (maxL := 3) (ret := none) (by decide) rfl ?_
  intro p e s m args below meth c s₁ Q R hQ hR B hml hv
  obtain ⟨rfl, hsz, hP, hK, hD0⟩ := hv
  have hx := B.exec
  have hb := B.bytes
  have hr := B.returns
  have hts := atoms_spec (ws := Cond.code yX2_count cX2_count 3 none :: wAll) B.pre
  have hw : ∀ {w : Cond}, w ∈ wAll → w.before _ s = true := fun {w} h => hts w (List.mem_cons_of_mem _ h)
  have hown : s.vm.findClass RX2 = some m.cls := findClass_of_methodNamed B.named
  have hlocks := B.notSynchronized
  have hRf : 1 ≤ R.frames := by rw [hR]; exact Nat.le_refl _
  have hRl : 22 ≤ R.locals := by rw [hR]; exact Nat.le_refl _
  subst hsz
  have hD := hD0.self (sz := s.heap.size)
  generalize hAe : va_A (clD o aw ar kI u) s.heap.size = A at hD  hQ
  have hA : ∀ q : Nat, s.heap.size ≤ q → A q := fun q h => by rw [← hAe]; exact Or.inr h
  have hl := lv_entry ([.ref o, .int a1]) (n := 3) (Nat.le_of_ble_eq_true rfl)
  rw [lg_entry_eq]
  generalize (lg_sl ([.ref o, .int a1]) ++ List.replicate (3 - (lg_sl ([.ref o, .int a1])).length) Slot.unset).toArray = ls at hl ⊢
  have hl : lv_has ls 3 [(0, .ref o), (1, .int a1)] := hl
  have hin0 : ∀ w ∈ u_ws RX2 TX2 7, w ∈ (Cond.code yX2_count cX2_count 3 none :: wAll) := fun w h => List.mem_cons_of_mem _ (w_flX2 w h)
  unfold fnD_count at ht
  obtain ⟨H, hHe⟩ : ∃ H : Heap, H = s.heap := ⟨_, rfl⟩
  have hP : va_P D vwCl (clD o aw ar kI u) H := by rw [hHe]; exact hP
  have hS : va_S A s.heap H [] := by rw [hHe]; exact va_S.rf
  rw [← hHe]
  refine lv_iload_n hx hb dX2_count_0 rfl (lv_at hl 1 rfl) ?_
  refine lv_bipush (v := (6 : Int32)) hx hb dX2_count_1 (by decide) ?_
  refine lv_ishr hx hb dX2_count_3 ?_
  refine lv_bipush (v := (7 : Int32)) hx hb dX2_count_4 (by decide) ?_
  refine lv_iand hx hb dX2_count_6 ?_
  refine lv_istore_n (lv' := [(2, .int ((a1 >>> ((6 : Int32) &&& 31)) &&& (7 : Int32))), (0, .ref o), (1, .int a1)]) hx hb dX2_count_7 rfl hl (by decide) rfl (fun ls hl => ?_)
  refine lv_aload_n hx hb dX2_count_8 rfl (lv_at hl 1 rfl) ?_
  refine lv_iload_n hx hb dX2_count_9 rfl (lv_at hl 0 rfl) ?_
  refine lv_iconst (v := (-1 : Int32)) hx hb dX2_count_10 (by decide) ?_
  obtain ⟨r1, h2, ht⟩ := ob_some ht
  refine kG_v (cl := clD o aw ar kI) (u := u) (va_runV (As := [.int ((a1 >>> ((6 : Int32) &&& 31)) &&& (7 : Int32)), .int (-1 : Int32)]) (rest := []) ⟨hx, hb, hml, hown, hts⟩ (ctD_add l D kI o aw ar H.size u ((a1 >>> ((6 : Int32) &&& 31)) &&& (7 : Int32)) (-1 : Int32) r1 h2) (cwV 2 hts (gV w_m_X2_28 w_im_yX2_add w_sel_yX2_add w_init_MicroMillModel w_co_yX2_add) rfl rfl rfl (by decide +kernel) ⟨Nat.le_trans (Nat.le_of_ble_eq_true rfl) hRf, Nat.le_trans (Nat.le_of_ble_eq_true rfl) hRl⟩) (preG (cl := clD o aw ar kI) (u := u) (N := 7) (ci := 2) hK hP (hD.weaken (fun _ _ _ _ => trivial)) rfl rfl _) rfl rfl hl.1 rfl (lv_room (Nat.le_of_ble_eq_true rfl)) dX2_count_11 ⟨Nat.zero_le _, Nat.zero_le _⟩) hD hS hA (fun H locs hP hD hS => ?_)
  refine lv_aload_n hx hb dX2_count_14 rfl (lv_at hl 1 rfl) ?_
  refine lv_dup hx hb dX2_count_15 rfl ?_
  refine va_get (D := D) (ci := 2) (v := .int r1.2.2.2.2.2.2.1) (C := RX2) (T := TX2) (N := 7) hx hb hts hin0 hown hK hP 0 rfl rfl 5 (by decide) (hw w_f_X2_39) (fun _ h9 => h9) rfl dX2_count_16 ?_
  refine lv_iconst (v := (2 : Int32)) hx hb dX2_count_19 (by decide) ?_
  refine lv_iadd hx hb dX2_count_20 ?_
  refine va_put (D := D) (ci := 2) (v := .int (r1.2.2.2.2.2.2.1 + (2 : Int32))) (ty := .int) (C := RX2) (T := TX2) (N := 7) hx hb hts hin0 tyX2 tyX2_ok nmX2 hown hK hP hD hS 0 rfl rfl 5 (by decide) (hw w_f_X2_39) (fun _ h9 => h9) rfl (by decide +kernel) rfl rfl (Nat.le_of_ble_eq_true rfl) dX2_count_21 (fun H locs hP hD hS => ?_)
  have hP : va_P D vwCl (clD o aw ar kI (r1.2.1, r1.2.2.1, r1.2.2.2.1, r1.2.2.2.2.1, r1.2.2.2.2.2.1, (r1.2.2.2.2.2.2.1 + (2 : Int32)), r1.2.2.2.2.2.2.2)) H := hP
  have hD : va_D A (clD o aw ar kI (r1.2.1, r1.2.2.1, r1.2.2.2.1, r1.2.2.2.2.1, r1.2.2.2.2.2.1, (r1.2.2.2.2.2.2.1 + (2 : Int32)), r1.2.2.2.2.2.2.2)) := hD
  refine lv_aload_n hx hb dX2_count_24 rfl (lv_at hl 1 rfl) ?_
  refine va_get (D := D) (ci := 2) (v := .ref ar) (C := RX2) (T := TX2) (N := 7) hx hb hts hin0 hown hK hP 0 rfl rfl 1 (by decide) (hw w_f_X2_13) (fun _ h9 => h9) rfl dX2_count_25 ?_
  refine lv_iload_n hx hb dX2_count_28 rfl (lv_at hl 0 rfl) ?_
  obtain ⟨b3, ht⟩ := oi_some ht
  refine va_iald hx hb hK hP 2 0 rfl rfl (ixk_in b3) dX2_count_29 ?_
  refine lv_if_ne (tgt := 34) hx hb dX2_count_30 (by decide) (fun g4 => ?_) (fun g4 => ?_)
  · have ht := (if_neg g4).symm.trans ht
    refine lv_aload_n hx hb dX2_count_34 rfl (lv_at hl 1 rfl) ?_
    refine lv_dup hx hb dX2_count_35 rfl ?_
    refine va_get (D := D) (ci := 2) (v := .int (r1.2.2.2.2.2.2.1 + (2 : Int32))) (C := RX2) (T := TX2) (N := 7) hx hb hts hin0 hown hK hP 0 rfl rfl 5 (by decide) (hw w_f_X2_39) (fun _ h9 => h9) rfl dX2_count_36 ?_
    refine lv_iconst (v := (1 : Int32)) hx hb dX2_count_39 (by decide) ?_
    refine lv_iadd hx hb dX2_count_40 ?_
    refine va_put (D := D) (ci := 2) (v := .int ((r1.2.2.2.2.2.2.1 + (2 : Int32)) + (1 : Int32))) (ty := .int) (C := RX2) (T := TX2) (N := 7) hx hb hts hin0 tyX2 tyX2_ok nmX2 hown hK hP hD hS 0 rfl rfl 5 (by decide) (hw w_f_X2_39) (fun _ h9 => h9) rfl (by decide +kernel) rfl rfl (Nat.le_of_ble_eq_true rfl) dX2_count_41 (fun H locs hP hD hS => ?_)
    have hP : va_P D vwCl (clD o aw ar kI (r1.2.1, r1.2.2.1, r1.2.2.2.1, r1.2.2.2.2.1, r1.2.2.2.2.2.1, ((r1.2.2.2.2.2.2.1 + (2 : Int32)) + (1 : Int32)), r1.2.2.2.2.2.2.2)) H := hP
    have hD : va_D A (clD o aw ar kI (r1.2.1, r1.2.2.1, r1.2.2.2.1, r1.2.2.2.2.1, r1.2.2.2.2.2.1, ((r1.2.2.2.2.2.2.1 + (2 : Int32)) + (1 : Int32)), r1.2.2.2.2.2.2.2)) := hD
    refine lv_aload_n hx hb dX2_count_44 rfl (lv_at hl 1 rfl) ?_
    refine lv_bipush (v := (7 : Int32)) hx hb dX2_count_45 (by decide) ?_
    refine lv_bipush (v := (-2 : Int32)) hx hb dX2_count_47 (by decide) ?_
    refine lv_iload_n hx hb dX2_count_49 rfl (lv_at hl 2 rfl) ?_
    refine lv_bipush (v := (63 : Int32)) hx hb dX2_count_50 (by decide) ?_
    refine lv_iand hx hb dX2_count_52 ?_
    refine lv_imul hx hb dX2_count_53 ?_
    obtain ⟨r5, h6, ht⟩ := ob_some ht
    refine kG_v (cl := clD o aw ar kI) (u := (r1.2.1, r1.2.2.1, r1.2.2.2.1, r1.2.2.2.2.1, r1.2.2.2.2.2.1, ((r1.2.2.2.2.2.2.1 + (2 : Int32)) + (1 : Int32)), r1.2.2.2.2.2.2.2)) (va_runV (As := [.int (7 : Int32), .int ((-2 : Int32) * (a1 &&& (63 : Int32)))]) (rest := []) ⟨hx, hb, hml, hown, hts⟩ (ctD_add l D kI o aw ar H.size (r1.2.1, r1.2.2.1, r1.2.2.2.1, r1.2.2.2.2.1, r1.2.2.2.2.2.1, ((r1.2.2.2.2.2.2.1 + (2 : Int32)) + (1 : Int32)), r1.2.2.2.2.2.2.2) (7 : Int32) ((-2 : Int32) * (a1 &&& (63 : Int32))) r5 h6) (cwV 2 hts (gV w_m_X2_28 w_im_yX2_add w_sel_yX2_add w_init_MicroMillModel w_co_yX2_add) rfl rfl rfl (by decide +kernel) ⟨Nat.le_trans (Nat.le_of_ble_eq_true rfl) hRf, Nat.le_trans (Nat.le_of_ble_eq_true rfl) hRl⟩) (preG (cl := clD o aw ar kI) (u := (r1.2.1, r1.2.2.1, r1.2.2.2.1, r1.2.2.2.2.1, r1.2.2.2.2.2.1, ((r1.2.2.2.2.2.2.1 + (2 : Int32)) + (1 : Int32)), r1.2.2.2.2.2.2.2)) (N := 7) (ci := 2) hK hP (hD.weaken (fun _ _ _ _ => trivial)) rfl rfl _) rfl rfl hl.1 rfl (lv_room (Nat.le_of_ble_eq_true rfl)) dX2_count_54 ⟨Nat.zero_le _, Nat.zero_le _⟩) hD hS hA (fun H locs hP hD hS => ?_)
    have e9 := Option.some.inj ht
    subst hQ
    exact W.vret hx hb hr (fun t ht9 hW => ⟨⟨r5.2, rfl, pr2 e9, ⟨by rw [ht9]; exact hP, va_K.moved hW.alike hK, hD⟩⟩, hS.F ht9⟩) hS.2.2 dX2_count_57
  · have ht := (if_pos g4).symm.trans ht
    have e9 := Option.some.inj ht
    subst hQ
    exact W.vret hx hb hr (fun t ht9 hW => ⟨⟨(r1.2.1, r1.2.2.1, r1.2.2.2.1, r1.2.2.2.2.1, r1.2.2.2.2.2.1, (r1.2.2.2.2.2.2.1 + (2 : Int32)), r1.2.2.2.2.2.2.2), rfl, pr2 e9, ⟨by rw [ht9]; exact hP, va_K.moved hW.alike hK, hD⟩⟩, hS.F ht9⟩) hS.2.2 dX2_count_33
def fnD_cycles (u : sD) : Option (Int64 × sD) := some (u.2.2.2.2.1, u)
set_option maxRecDepth 100000 in
set_option maxHeartbeats 4000000 in
theorem ctD_cycles (l : Launch) (D : va_G) (kI : ClassId) (o aw ar : Nat) (sz : Nat) (u : sD) (tg : Int64 × sD) (ht : fnD_cycles u  = some tg) : Met l yX2_cycles (Cond.code yX2_cycles cX2_cycles 1 (some .long) :: wAll) ({ frames := 0, cells := 0, slots := 0, locals := 0 } : Room) (va_Pc [.ref o] (prG D kI (clD o aw ar kI) sz u)) (va_Ql (fun (x : Int64) (v : sD) => x = tg.1 ∧ v = tg.2) (poG D kI (clD o aw ar kI) (va_A (clD o aw ar kI u) sz)) (va_A (clD o aw ar kI u) sz)) 0 0 (va_A (clD o aw ar kI u) sz) := by
  refine mOfW (cc := cX2_cycles) (maxL := 1) (ret := (some .long)) (by decide) rfl ?_
  intro p e s m args below meth c s₁ Q R hQ hR B hml hv
  obtain ⟨rfl, hsz, hP, hK, hD0⟩ := hv
  have hx := B.exec
  have hb := B.bytes
  have hr := B.returns
  have hts := atoms_spec (ws := Cond.code yX2_cycles cX2_cycles 1 (some .long) :: wAll) B.pre
  have hw : ∀ {w : Cond}, w ∈ wAll → w.before _ s = true := fun {w} h => hts w (List.mem_cons_of_mem _ h)
  have hown : s.vm.findClass RX2 = some m.cls := findClass_of_methodNamed B.named
  have hlocks := B.notSynchronized
  have hRf : 0 ≤ R.frames := by rw [hR]; exact Nat.le_refl _
  have hRl : 0 ≤ R.locals := by rw [hR]; exact Nat.le_refl _
  subst hsz
  have hD := hD0.self (sz := s.heap.size)
  generalize hAe : va_A (clD o aw ar kI u) s.heap.size = A at hD  hQ
  have hA : ∀ q : Nat, s.heap.size ≤ q → A q := fun q h => by rw [← hAe]; exact Or.inr h
  have hl := lv_entry ([.ref o]) (n := 1) (Nat.le_of_ble_eq_true rfl)
  rw [lg_entry_eq]
  generalize (lg_sl ([.ref o]) ++ List.replicate (1 - (lg_sl ([.ref o])).length) Slot.unset).toArray = ls at hl ⊢
  have hl : lv_has ls 1 [(0, .ref o)] := hl
  have hin0 : ∀ w ∈ u_ws RX2 TX2 7, w ∈ (Cond.code yX2_cycles cX2_cycles 1 (some .long) :: wAll) := fun w h => List.mem_cons_of_mem _ (w_flX2 w h)
  unfold fnD_cycles at ht
  obtain ⟨H, hHe⟩ : ∃ H : Heap, H = s.heap := ⟨_, rfl⟩
  have hP : va_P D vwCl (clD o aw ar kI u) H := by rw [hHe]; exact hP
  have hS : va_S A s.heap H [] := by rw [hHe]; exact va_S.rf
  rw [← hHe]
  refine lv_aload_n hx hb dX2_cycles_0 rfl (lv_at hl 0 rfl) ?_
  refine va_get (D := D) (ci := 2) (v := .long u.2.2.2.2.1) (C := RX2) (T := TX2) (N := 7) hx hb hts hin0 hown hK hP 0 rfl rfl 4 (by decide) (hw w_f_X2_21) (fun _ h9 => h9) rfl dX2_cycles_1 ?_
  have e9 := Option.some.inj ht
  subst hQ
  exact W.lret (v := u.2.2.2.2.1) hx hb hr (fun t ht9 hW => ⟨⟨u.2.2.2.2.1, u, rfl, ⟨pr1 e9, pr2 e9⟩, ⟨by rw [ht9]; exact hP, va_K.moved hW.alike hK, hD⟩⟩, hS.F ht9⟩) hS.2.2 dX2_cycles_4
def fnD_following (u : sD) : Option (Int32 × sD) := if ixk (7 : Int32) 8 then ((fnD_add u (7 : Int32) (2 : Int32)).bind (fun r2 => (fnD_word r2.2 (u.2.1 (7 : Int32).toNatClampNeg)).bind (fun r4 => some (r4.1, r4.2)))) else none
set_option maxRecDepth 100000 in
set_option maxHeartbeats 4000000 in
theorem ctD_following (l : Launch) (D : va_G) (kI : ClassId) (o aw ar : Nat) (sz : Nat) (u : sD) (tg : Int32 × sD) (ht : fnD_following u  = some tg) : Met l yX2_following (Cond.code yX2_following cX2_following 2 (some .int) :: wAll) ({ frames := 1, cells := 0, slots := 0, locals := 22 } : Room) (va_Pc [.ref o] (prG D kI (clD o aw ar kI) sz u)) (va_Qi (fun (x : Int32) (v : sD) => x = tg.1 ∧ v = tg.2) (poG D kI (clD o aw ar kI) (va_A (clD o aw ar kI u) sz)) (va_A (clD o aw ar kI u) sz)) 0 0 (va_A (clD o aw ar kI u) sz) := by
  refine mOfW (cc := cX2_following) (maxL := 2) (ret := (some .int)) (by decide) rfl ?_
  intro p e s m args below meth c s₁ Q R hQ hR B hml hv
  obtain ⟨rfl, hsz, hP, hK, hD0⟩ := hv
  have hx := B.exec
  have hb := B.bytes
  have hr := B.returns
  have hts := atoms_spec (ws := Cond.code yX2_following cX2_following 2 (some .int) :: wAll) B.pre
  have hw : ∀ {w : Cond}, w ∈ wAll → w.before _ s = true := fun {w} h => hts w (List.mem_cons_of_mem _ h)
  have hown : s.vm.findClass RX2 = some m.cls := findClass_of_methodNamed B.named
  have hlocks := B.notSynchronized
  have hRf : 1 ≤ R.frames := by rw [hR]; exact Nat.le_refl _
  have hRl : 22 ≤ R.locals := by rw [hR]; exact Nat.le_refl _
  subst hsz
  have hD := hD0.self (sz := s.heap.size)
  generalize hAe : va_A (clD o aw ar kI u) s.heap.size = A at hD  hQ
  have hA : ∀ q : Nat, s.heap.size ≤ q → A q := fun q h => by rw [← hAe]; exact Or.inr h
  have hl := lv_entry ([.ref o]) (n := 2) (Nat.le_of_ble_eq_true rfl)
  rw [lg_entry_eq]
  generalize (lg_sl ([.ref o]) ++ List.replicate (2 - (lg_sl ([.ref o])).length) Slot.unset).toArray = ls at hl ⊢
  have hl : lv_has ls 2 [(0, .ref o)] := hl
  have hin0 : ∀ w ∈ u_ws RX2 TX2 7, w ∈ (Cond.code yX2_following cX2_following 2 (some .int) :: wAll) := fun w h => List.mem_cons_of_mem _ (w_flX2 w h)
  unfold fnD_following at ht
  obtain ⟨H, hHe⟩ : ∃ H : Heap, H = s.heap := ⟨_, rfl⟩
  have hP : va_P D vwCl (clD o aw ar kI u) H := by rw [hHe]; exact hP
  have hS : va_S A s.heap H [] := by rw [hHe]; exact va_S.rf
  rw [← hHe]
  refine lv_aload_n hx hb dX2_following_0 rfl (lv_at hl 0 rfl) ?_
  refine va_get (D := D) (ci := 2) (v := .ref ar) (C := RX2) (T := TX2) (N := 7) hx hb hts hin0 hown hK hP 0 rfl rfl 1 (by decide) (hw w_f_X2_13) (fun _ h9 => h9) rfl dX2_following_1 ?_
  refine lv_bipush (v := (7 : Int32)) hx hb dX2_following_4 (by decide) ?_
  obtain ⟨b1, ht⟩ := oi_some ht
  refine va_iald hx hb hK hP 2 0 rfl rfl (ixk_in b1) dX2_following_6 ?_
  refine lv_istore_n (lv' := [(1, .int (u.2.1 (7 : Int32).toNatClampNeg)), (0, .ref o)]) hx hb dX2_following_7 rfl hl (by decide) rfl (fun ls hl => ?_)
  refine lv_aload_n hx hb dX2_following_8 rfl (lv_at hl 1 rfl) ?_
  refine lv_bipush (v := (7 : Int32)) hx hb dX2_following_9 (by decide) ?_
  refine lv_iconst (v := (2 : Int32)) hx hb dX2_following_11 (by decide) ?_
  obtain ⟨r2, h3, ht⟩ := ob_some ht
  refine kG_v (cl := clD o aw ar kI) (u := u) (va_runV (As := [.int (7 : Int32), .int (2 : Int32)]) (rest := []) ⟨hx, hb, hml, hown, hts⟩ (ctD_add l D kI o aw ar H.size u (7 : Int32) (2 : Int32) r2 h3) (cwV 2 hts (gV w_m_X2_28 w_im_yX2_add w_sel_yX2_add w_init_MicroMillModel w_co_yX2_add) rfl rfl rfl (by decide +kernel) ⟨Nat.le_trans (Nat.le_of_ble_eq_true rfl) hRf, Nat.le_trans (Nat.le_of_ble_eq_true rfl) hRl⟩) (preG (cl := clD o aw ar kI) (u := u) (N := 7) (ci := 2) hK hP (hD.weaken (fun _ _ _ _ => trivial)) rfl rfl _) rfl rfl hl.1 rfl (lv_room (Nat.le_of_ble_eq_true rfl)) dX2_following_12 ⟨Nat.zero_le _, Nat.zero_le _⟩) hD hS hA (fun H locs hP hD hS => ?_)
  refine lv_aload_n hx hb dX2_following_15 rfl (lv_at hl 1 rfl) ?_
  refine lv_iload_n hx hb dX2_following_16 rfl (lv_at hl 0 rfl) ?_
  obtain ⟨r4, h5, ht⟩ := ob_some ht
  refine kG_i (cl := clD o aw ar kI) (u := r2.2) (va_runV (As := [.int (u.2.1 (7 : Int32).toNatClampNeg)]) (rest := []) ⟨hx, hb, hml, hown, hts⟩ (ctD_word l D kI o aw ar H.size r2.2 (u.2.1 (7 : Int32).toNatClampNeg) r4 h5) (cwV 1 hts (gV w_m_X2_32 w_im_yX2_word w_sel_yX2_word w_init_MicroMillModel w_co_yX2_word) rfl rfl rfl (by decide +kernel) ⟨Nat.le_trans (Nat.le_of_ble_eq_true rfl) hRf, Nat.le_trans (Nat.le_of_ble_eq_true rfl) hRl⟩) (preG (cl := clD o aw ar kI) (u := r2.2) (N := 7) (ci := 2) hK hP (hD.weaken (fun _ _ _ _ => trivial)) rfl rfl _) rfl rfl hl.1 rfl (lv_room (Nat.le_of_ble_eq_true rfl)) dX2_following_17 ⟨Nat.zero_le _, Nat.zero_le _⟩) hD hS hA (fun H locs hP hD hS => ?_)
  have e9 := Option.some.inj ht
  subst hQ
  exact W.iret (v := r4.1) hx hb hr (fun t ht9 hW => ⟨⟨r4.1, r4.2, rfl, ⟨pr1 e9, pr2 e9⟩, ⟨by rw [ht9]; exact hP, va_K.moved hW.alike hK, hD⟩⟩, hS.F ht9⟩) hS.2.2 dX2_following_20
def fnD_find_212 (u : sD) : Option (Unit × sD) := some ((), u)
def fnD_find_190 (u : sD) : Option (Unit × sD) := (fnD_word (u.1, u.2.1, u.2.2.1, u.2.2.2.1, u.2.2.2.2.1, (u.2.2.2.2.2.1 + (1 : Int32)), u.2.2.2.2.2.2) u.2.2.2.2.2.2).bind (fun r24 => fnD_find_212 (r24.2.1, r24.2.2.1, r24.2.2.2.1, r24.2.2.2.2.1, r24.2.2.2.2.2.1, r24.2.2.2.2.2.2.1, r24.1))
def fnD_find_174 (u : sD) (x3 : Int32) : Option (Unit × sD) := if x3 = (3 : Int32) then (fnD_find_190 u) else (if x3 = (5 : Int32) then (fnD_find_190 u) else (if x3 = (7 : Int32) then (fnD_find_190 u) else (fnD_find_212 u)))
def fnD_find_145 (u : sD) (x3 : Int32) (x4 : Int32) (x6 : Int32) : Option (Unit × sD) := if x6 = (3 : Int32) then ((fnD_following u).bind (fun r18 => if ixk x4 8 then (fnD_find_174 (r18.2.1, r18.2.2.1, r18.2.2.2.1, r18.2.2.2.2.1, r18.2.2.2.2.2.1, r18.2.2.2.2.2.2.1, ((r18.1 + (r18.2.2.1 x4.toNatClampNeg)) &&& (65535 : Int32))) x3) else none)) else (fnD_find_174 u x3)
def fnD_find_119 (u : sD) (x3 : Int32) (x4 : Int32) (x5 : Int32) (x6 : Int32) : Option (Unit × sD) := if x6 = (2 : Int32) then ((fnD_add u x4 (-x5)).bind (fun r14 => if ixk x4 8 then (fnD_find_145 (r14.2.1, r14.2.2.1, r14.2.2.2.1, r14.2.2.2.2.1, r14.2.2.2.2.2.1, r14.2.2.2.2.2.2.1, (r14.2.2.1 x4.toNatClampNeg)) x3 x4 x6) else none)) else (fnD_find_145 u x3 x4 x6)
def fnD_find_90 (u : sD) (x3 : Int32) (x4 : Int32) (x5 : Int32) (x6 : Int32) (y0 : Int32) (y1 : Int32) : Option (Unit × sD) := if ixk x4 8 then (if x6 = (1 : Int32) then ((fnD_add (u.1, u.2.1, u.2.2.1, u.2.2.2.1, u.2.2.2.2.1, (y1 + y0), (u.2.1 x4.toNatClampNeg)) x4 x5).bind (fun r11 => fnD_find_119 r11.2 x3 x4 x5 x6)) else (fnD_find_119 (u.1, u.2.1, u.2.2.1, u.2.2.2.1, u.2.2.2.2.1, (y1 + y0), (u.2.1 x4.toNatClampNeg)) x3 x4 x5 x6)) else none
def fnD_find_35 (u : sD) (x3 : Int32) (x4 : Int32) (y0 : Int32) : Option (Unit × sD) := nm ((-1 : Int32) - x4) (fun z4 => if x3 = 0 then (some ((), (u.1, u.2.1, u.2.2.1, u.2.2.2.1, u.2.2.2.2.1, u.2.2.2.2.2.1, z4))) else (if (x3 / (2 : Int32)) = 0 then (fnD_find_90 (u.1, u.2.1, u.2.2.1, u.2.2.2.1, u.2.2.2.2.1, u.2.2.2.2.2.1, z4) x3 x4 y0 (x3 / (2 : Int32)) (1 : Int32) u.2.2.2.2.2.1) else (if (x3 / (2 : Int32)) = (1 : Int32) then (fnD_find_90 (u.1, u.2.1, u.2.2.1, u.2.2.2.1, u.2.2.2.2.1, u.2.2.2.2.2.1, z4) x3 x4 y0 (x3 / (2 : Int32)) (1 : Int32) u.2.2.2.2.2.1) else (if (x3 / (2 : Int32)) = (2 : Int32) then (fnD_find_90 (u.1, u.2.1, u.2.2.1, u.2.2.2.1, u.2.2.2.2.1, u.2.2.2.2.2.1, z4) x3 x4 y0 (x3 / (2 : Int32)) (2 : Int32) u.2.2.2.2.2.1) else (fnD_find_90 (u.1, u.2.1, u.2.2.1, u.2.2.2.1, u.2.2.2.2.1, u.2.2.2.2.2.1, z4) x3 x4 y0 (x3 / (2 : Int32)) (3 : Int32) u.2.2.2.2.2.1)))))
def fnD_find_34 (u : sD) (x3 : Int32) (x4 : Int32) : Option (Unit × sD) := fnD_find_35 u x3 x4 (2 : Int32)
def fnD_find (u : sD) (a1 : Int32) (a2 : Int32) : Option (Unit × sD) := if a2 = 0 then (fnD_find_34 u ((a1 >>> ((3 : Int32) &&& 31)) &&& (7 : Int32)) (a1 &&& (7 : Int32))) else (if (((a1 >>> ((3 : Int32) &&& 31)) &&& (7 : Int32)) - ((a1 >>> ((3 : Int32) &&& 31)) &&& (7 : Int32)) / (2 : Int32) * (2 : Int32)) = 0 then (if (6 : Int32) ≤ (a1 &&& (7 : Int32)) then (fnD_find_34 u ((a1 >>> ((3 : Int32) &&& 31)) &&& (7 : Int32)) (a1 &&& (7 : Int32))) else (fnD_find_35 u ((a1 >>> ((3 : Int32) &&& 31)) &&& (7 : Int32)) (a1 &&& (7 : Int32)) (1 : Int32))) else (fnD_find_34 u ((a1 >>> ((3 : Int32) &&& 31)) &&& (7 : Int32)) (a1 &&& (7 : Int32))))
set_option maxRecDepth 100000 in
set_option maxHeartbeats 4000000 in
theorem ctD_find (l : Launch) (D : va_G) (kI : ClassId) (o aw ar : Nat) (sz : Nat) (u : sD) (a1 : Int32) (a2 : Int32) (tg : Unit × sD) (ht : fnD_find u a1 a2 = some tg) : Met l yX2_find (Cond.code yX2_find cX2_find 8 none :: wAll) ({ frames := 2, cells := 0, slots := 0, locals := 43 } : Room) (va_Pc [.ref o, .int a1, .int a2] (prG D kI (clD o aw ar kI) sz u)) (va_Qv (fun (v : sD) => v = tg.2) (poG D kI (clD o aw ar kI) (va_A (clD o aw ar kI u) sz)) (va_A (clD o aw ar kI u) sz)) 0 0 (va_A (clD o aw ar kI u) sz) := by
  refine mOfW (cc := cX2_find) (maxL := 8) (ret := none) (by decide) rfl ?_
  intro p e s m args below meth c s₁ Q R hQ hR B hml hv
  obtain ⟨rfl, hsz, hP, hK, hD0⟩ := hv
  have hx := B.exec
  have hb := B.bytes
  have hr := B.returns
  have hts := atoms_spec (ws := Cond.code yX2_find cX2_find 8 none :: wAll) B.pre
  have hw : ∀ {w : Cond}, w ∈ wAll → w.before _ s = true := fun {w} h => hts w (List.mem_cons_of_mem _ h)
  have hown : s.vm.findClass RX2 = some m.cls := findClass_of_methodNamed B.named
  have hlocks := B.notSynchronized
  have hRf : 2 ≤ R.frames := by rw [hR]; exact Nat.le_refl _
  have hRl : 43 ≤ R.locals := by rw [hR]; exact Nat.le_refl _
  subst hsz
  have hD := hD0.self (sz := s.heap.size)
  generalize hAe : va_A (clD o aw ar kI u) s.heap.size = A at hD  hQ
  have hA : ∀ q : Nat, s.heap.size ≤ q → A q := fun q h => by rw [← hAe]; exact Or.inr h
  have hl := lv_entry ([.ref o, .int a1, .int a2]) (n := 8) (Nat.le_of_ble_eq_true rfl)
  rw [lg_entry_eq]
  generalize (lg_sl ([.ref o, .int a1, .int a2]) ++ List.replicate (8 - (lg_sl ([.ref o, .int a1, .int a2])).length) Slot.unset).toArray = ls at hl ⊢
  have hl : lv_has ls 8 [(0, .ref o), (1, .int a1), (2, .int a2)] := hl
  have hin0 : ∀ w ∈ u_ws RX2 TX2 7, w ∈ (Cond.code yX2_find cX2_find 8 none :: wAll) := fun w h => List.mem_cons_of_mem _ (w_flX2 w h)
  have K212 : ∀ (H : Heap) (locs : List Loc) (ls : Array Slot) (u : sD) , va_P D vwCl (clD o aw ar kI u) H → va_D A (clD o aw ar kI u) → va_S A s.heap H locs → lv_has ls 8 [] → fnD_find_212 u  = some tg → W p l e R s m ([.ref o, .int a1, .int a2] : List Value).toArray below meth c H locs 0 0 Q (F0 m 212 ls []) := by
    intro H locs ls u  hP hD hS hl ht
    unfold fnD_find_212 at ht
    have e9 := Option.some.inj ht
    subst hQ
    exact W.vret hx hb hr (fun t ht9 hW => ⟨⟨u, rfl, pr2 e9, ⟨by rw [ht9]; exact hP, va_K.moved hW.alike hK, hD⟩⟩, hS.F ht9⟩) hS.2.2 dX2_find_212
  have K190 : ∀ (H : Heap) (locs : List Loc) (ls : Array Slot) (u : sD) , va_P D vwCl (clD o aw ar kI u) H → va_D A (clD o aw ar kI u) → va_S A s.heap H locs → lv_has ls 8 [(0, .ref o)] → fnD_find_190 u  = some tg → W p l e R s m ([.ref o, .int a1, .int a2] : List Value).toArray below meth c H locs 0 0 Q (F0 m 190 ls []) := by
    intro H locs ls u  hP hD hS hl ht
    unfold fnD_find_190 at ht
    refine lv_aload_n hx hb dX2_find_190 rfl (lv_at hl 0 rfl) ?_
    refine lv_dup hx hb dX2_find_191 rfl ?_
    refine va_get (D := D) (ci := 2) (v := .int u.2.2.2.2.2.1) (C := RX2) (T := TX2) (N := 7) hx hb hts hin0 hown hK hP 0 rfl rfl 5 (by decide) (hw w_f_X2_39) (fun _ h9 => h9) rfl dX2_find_192 ?_
    refine lv_iconst (v := (1 : Int32)) hx hb dX2_find_195 (by decide) ?_
    refine lv_iadd hx hb dX2_find_196 ?_
    refine va_put (D := D) (ci := 2) (v := .int (u.2.2.2.2.2.1 + (1 : Int32))) (ty := .int) (C := RX2) (T := TX2) (N := 7) hx hb hts hin0 tyX2 tyX2_ok nmX2 hown hK hP hD hS 0 rfl rfl 5 (by decide) (hw w_f_X2_39) (fun _ h9 => h9) rfl (by decide +kernel) rfl rfl (Nat.le_of_ble_eq_true rfl) dX2_find_197 (fun H locs hP hD hS => ?_)
    have hP : va_P D vwCl (clD o aw ar kI (u.1, u.2.1, u.2.2.1, u.2.2.2.1, u.2.2.2.2.1, (u.2.2.2.2.2.1 + (1 : Int32)), u.2.2.2.2.2.2)) H := hP
    have hD : va_D A (clD o aw ar kI (u.1, u.2.1, u.2.2.1, u.2.2.2.1, u.2.2.2.2.1, (u.2.2.2.2.2.1 + (1 : Int32)), u.2.2.2.2.2.2)) := hD
    refine lv_aload_n hx hb dX2_find_200 rfl (lv_at hl 0 rfl) ?_
    refine lv_aload_n hx hb dX2_find_201 rfl (lv_at hl 0 rfl) ?_
    refine lv_aload_n hx hb dX2_find_202 rfl (lv_at hl 0 rfl) ?_
    refine va_get (D := D) (ci := 2) (v := .int u.2.2.2.2.2.2) (C := RX2) (T := TX2) (N := 7) hx hb hts hin0 hown hK hP 0 rfl rfl 6 (by decide) (hw w_f_X2_36) (fun _ h9 => h9) rfl dX2_find_203 ?_
    obtain ⟨r24, h25, ht⟩ := ob_some ht
    refine kG_i (cl := clD o aw ar kI) (u := (u.1, u.2.1, u.2.2.1, u.2.2.2.1, u.2.2.2.2.1, (u.2.2.2.2.2.1 + (1 : Int32)), u.2.2.2.2.2.2)) (va_runV (As := [.int u.2.2.2.2.2.2]) (rest := [.ref o]) ⟨hx, hb, hml, hown, hts⟩ (ctD_word l D kI o aw ar H.size (u.1, u.2.1, u.2.2.1, u.2.2.2.1, u.2.2.2.2.1, (u.2.2.2.2.2.1 + (1 : Int32)), u.2.2.2.2.2.2) u.2.2.2.2.2.2 r24 h25) (cwV 1 hts (gV w_m_X2_32 w_im_yX2_word w_sel_yX2_word w_init_MicroMillModel w_co_yX2_word) rfl rfl rfl (by decide +kernel) ⟨Nat.le_trans (Nat.le_of_ble_eq_true rfl) hRf, Nat.le_trans (Nat.le_of_ble_eq_true rfl) hRl⟩) (preG (cl := clD o aw ar kI) (u := (u.1, u.2.1, u.2.2.1, u.2.2.2.1, u.2.2.2.2.1, (u.2.2.2.2.2.1 + (1 : Int32)), u.2.2.2.2.2.2)) (N := 7) (ci := 2) hK hP (hD.weaken (fun _ _ _ _ => trivial)) rfl rfl _) rfl rfl hl.1 rfl (lv_room (Nat.le_of_ble_eq_true rfl)) dX2_find_206 ⟨Nat.zero_le _, Nat.zero_le _⟩) hD hS hA (fun H locs hP hD hS => ?_)
    refine va_put (D := D) (ci := 2) (v := .int r24.1) (ty := .int) (C := RX2) (T := TX2) (N := 7) hx hb hts hin0 tyX2 tyX2_ok nmX2 hown hK hP hD hS 0 rfl rfl 6 (by decide) (hw w_f_X2_36) (fun _ h9 => h9) rfl (by decide +kernel) rfl rfl (Nat.le_of_ble_eq_true rfl) dX2_find_209 (fun H locs hP hD hS => ?_)
    have hP : va_P D vwCl (clD o aw ar kI (r24.2.1, r24.2.2.1, r24.2.2.2.1, r24.2.2.2.2.1, r24.2.2.2.2.2.1, r24.2.2.2.2.2.2.1, r24.1)) H := hP
    have hD : va_D A (clD o aw ar kI (r24.2.1, r24.2.2.1, r24.2.2.2.1, r24.2.2.2.2.1, r24.2.2.2.2.2.1, r24.2.2.2.2.2.2.1, r24.1)) := hD
    exact K212 _ _ _ (r24.2.1, r24.2.2.1, r24.2.2.2.1, r24.2.2.2.2.1, r24.2.2.2.2.2.1, r24.2.2.2.2.2.2.1, r24.1) hP hD hS (lv_sub hl [] rfl) ht
  have K174 : ∀ (H : Heap) (locs : List Loc) (ls : Array Slot) (u : sD) (x3 : Int32) , va_P D vwCl (clD o aw ar kI u) H → va_D A (clD o aw ar kI u) → va_S A s.heap H locs → lv_has ls 8 [(0, .ref o), (3, .int x3)] → fnD_find_174 u x3 = some tg → W p l e R s m ([.ref o, .int a1, .int a2] : List Value).toArray below meth c H locs 0 0 Q (F0 m 174 ls []) := by
    intro H locs ls u x3 hP hD hS hl ht
    unfold fnD_find_174 at ht
    refine lv_iload_n hx hb dX2_find_174 rfl (lv_at hl 1 rfl) ?_
    refine lv_iconst (v := (3 : Int32)) hx hb dX2_find_175 (by decide) ?_
    refine lv_icmp_eq (tgt := 190) hx hb dX2_find_176 (by decide) (fun g21 => ?_) (fun g21 => ?_)
    · have ht := (if_pos g21).symm.trans ht
      exact K190 _ _ _ u hP hD hS (lv_sub hl [0] rfl) ht
    · have ht := (if_neg g21).symm.trans ht
      refine lv_iload_n hx hb dX2_find_179 rfl (lv_at hl 1 rfl) ?_
      refine lv_iconst (v := (5 : Int32)) hx hb dX2_find_180 (by decide) ?_
      refine lv_icmp_eq (tgt := 190) hx hb dX2_find_181 (by decide) (fun g22 => ?_) (fun g22 => ?_)
      · have ht := (if_pos g22).symm.trans ht
        exact K190 _ _ _ u hP hD hS (lv_sub hl [0] rfl) ht
      · have ht := (if_neg g22).symm.trans ht
        refine lv_iload_n hx hb dX2_find_184 rfl (lv_at hl 1 rfl) ?_
        refine lv_bipush (v := (7 : Int32)) hx hb dX2_find_185 (by decide) ?_
        refine lv_icmp_ne (tgt := 212) hx hb dX2_find_187 (by decide) (fun g23 => ?_) (fun g23 => ?_)
        · have ht := (if_neg g23).symm.trans ht
          exact K212 _ _ _ u hP hD hS (lv_sub hl [] rfl) ht
        · have ht := (if_pos g23).symm.trans ht
          exact K190 _ _ _ u hP hD hS (lv_sub hl [0] rfl) ht
  have K145 : ∀ (H : Heap) (locs : List Loc) (ls : Array Slot) (u : sD) (x3 : Int32) (x4 : Int32) (x6 : Int32) , va_P D vwCl (clD o aw ar kI u) H → va_D A (clD o aw ar kI u) → va_S A s.heap H locs → lv_has ls 8 [(0, .ref o), (3, .int x3), (4, .int x4), (6, .int x6)] → fnD_find_145 u x3 x4 x6 = some tg → W p l e R s m ([.ref o, .int a1, .int a2] : List Value).toArray below meth c H locs 0 0 Q (F0 m 145 ls []) := by
    intro H locs ls u x3 x4 x6 hP hD hS hl ht
    unfold fnD_find_145 at ht
    refine lv_iload hx hb dX2_find_145 (lv_at hl 3 rfl) ?_
    refine lv_iconst (v := (3 : Int32)) hx hb dX2_find_147 (by decide) ?_
    refine lv_icmp_ne (tgt := 174) hx hb dX2_find_148 (by decide) (fun g17 => ?_) (fun g17 => ?_)
    · have ht := (if_neg g17).symm.trans ht
      exact K174 _ _ _ u x3 hP hD hS (lv_sub hl [0, 1] rfl) ht
    · have ht := (if_pos g17).symm.trans ht
      refine lv_aload_n hx hb dX2_find_151 rfl (lv_at hl 0 rfl) ?_
      obtain ⟨r18, h19, ht⟩ := ob_some ht
      refine kG_i (cl := clD o aw ar kI) (u := u) (va_runV (As := []) (rest := []) ⟨hx, hb, hml, hown, hts⟩ (ctD_following l D kI o aw ar H.size u  r18 h19) (cwV 0 hts (gV w_m_X2_42 w_im_yX2_following w_sel_yX2_following w_init_MicroMillModel w_co_yX2_following) rfl rfl rfl (by decide +kernel) ⟨Nat.le_trans (Nat.le_of_ble_eq_true rfl) hRf, Nat.le_trans (Nat.le_of_ble_eq_true rfl) hRl⟩) (preG (cl := clD o aw ar kI) (u := u) (N := 7) (ci := 2) hK hP (hD.weaken (fun _ _ _ _ => trivial)) rfl rfl _) rfl rfl hl.1 rfl (lv_room (Nat.le_of_ble_eq_true rfl)) dX2_find_152 ⟨Nat.zero_le _, Nat.zero_le _⟩) hD hS hA (fun H locs hP hD hS => ?_)
      refine lv_istore (lv' := [(7, .int r18.1), (0, .ref o), (3, .int x3), (4, .int x4), (6, .int x6)]) hx hb dX2_find_155 hl (by decide) rfl (fun ls hl => ?_)
      refine lv_aload_n hx hb dX2_find_157 rfl (lv_at hl 1 rfl) ?_
      refine lv_iload hx hb dX2_find_158 (lv_at hl 0 rfl) ?_
      refine lv_aload_n hx hb dX2_find_160 rfl (lv_at hl 1 rfl) ?_
      refine va_get (D := D) (ci := 2) (v := .ref ar) (C := RX2) (T := TX2) (N := 7) hx hb hts hin0 hown hK hP 0 rfl rfl 1 (by decide) (hw w_f_X2_13) (fun _ h9 => h9) rfl dX2_find_161 ?_
      refine lv_iload hx hb dX2_find_164 (lv_at hl 3 rfl) ?_
      obtain ⟨b20, ht⟩ := oi_some ht
      refine va_iald hx hb hK hP 2 0 rfl rfl (ixk_in b20) dX2_find_166 ?_
      refine lv_iadd hx hb dX2_find_167 ?_
      refine lv_ldc (v := (65535 : Int32)) hx hb hown (hw w_k_X2_16) dX2_find_168 ?_
      refine lv_iand hx hb dX2_find_170 ?_
      refine va_put (D := D) (ci := 2) (v := .int ((r18.1 + (r18.2.2.1 x4.toNatClampNeg)) &&& (65535 : Int32))) (ty := .int) (C := RX2) (T := TX2) (N := 7) hx hb hts hin0 tyX2 tyX2_ok nmX2 hown hK hP hD hS 0 rfl rfl 6 (by decide) (hw w_f_X2_36) (fun _ h9 => h9) rfl (by decide +kernel) rfl rfl (Nat.le_of_ble_eq_true rfl) dX2_find_171 (fun H locs hP hD hS => ?_)
      have hP : va_P D vwCl (clD o aw ar kI (r18.2.1, r18.2.2.1, r18.2.2.2.1, r18.2.2.2.2.1, r18.2.2.2.2.2.1, r18.2.2.2.2.2.2.1, ((r18.1 + (r18.2.2.1 x4.toNatClampNeg)) &&& (65535 : Int32)))) H := hP
      have hD : va_D A (clD o aw ar kI (r18.2.1, r18.2.2.1, r18.2.2.2.1, r18.2.2.2.2.1, r18.2.2.2.2.2.1, r18.2.2.2.2.2.2.1, ((r18.1 + (r18.2.2.1 x4.toNatClampNeg)) &&& (65535 : Int32)))) := hD
      exact K174 _ _ _ (r18.2.1, r18.2.2.1, r18.2.2.2.1, r18.2.2.2.2.1, r18.2.2.2.2.2.1, r18.2.2.2.2.2.2.1, ((r18.1 + (r18.2.2.1 x4.toNatClampNeg)) &&& (65535 : Int32))) x3 hP hD hS (lv_sub hl [1, 2] rfl) ht
  have K119 : ∀ (H : Heap) (locs : List Loc) (ls : Array Slot) (u : sD) (x3 : Int32) (x4 : Int32) (x5 : Int32) (x6 : Int32) , va_P D vwCl (clD o aw ar kI u) H → va_D A (clD o aw ar kI u) → va_S A s.heap H locs → lv_has ls 8 [(0, .ref o), (3, .int x3), (4, .int x4), (5, .int x5), (6, .int x6)] → fnD_find_119 u x3 x4 x5 x6 = some tg → W p l e R s m ([.ref o, .int a1, .int a2] : List Value).toArray below meth c H locs 0 0 Q (F0 m 119 ls []) := by
    intro H locs ls u x3 x4 x5 x6 hP hD hS hl ht
    unfold fnD_find_119 at ht
    refine lv_iload hx hb dX2_find_119 (lv_at hl 4 rfl) ?_
    refine lv_iconst (v := (2 : Int32)) hx hb dX2_find_121 (by decide) ?_
    refine lv_icmp_ne (tgt := 145) hx hb dX2_find_122 (by decide) (fun g13 => ?_) (fun g13 => ?_)
    · have ht := (if_neg g13).symm.trans ht
      exact K145 _ _ _ u x3 x4 x6 hP hD hS (lv_sub hl [0, 1, 2, 4] rfl) ht
    · have ht := (if_pos g13).symm.trans ht
      refine lv_aload_n hx hb dX2_find_125 rfl (lv_at hl 0 rfl) ?_
      refine lv_iload hx hb dX2_find_126 (lv_at hl 2 rfl) ?_
      refine lv_iload hx hb dX2_find_128 (lv_at hl 3 rfl) ?_
      refine lv_ineg hx hb dX2_find_130 ?_
      obtain ⟨r14, h15, ht⟩ := ob_some ht
      refine kG_v (cl := clD o aw ar kI) (u := u) (va_runV (As := [.int x4, .int (-x5)]) (rest := []) ⟨hx, hb, hml, hown, hts⟩ (ctD_add l D kI o aw ar H.size u x4 (-x5) r14 h15) (cwV 2 hts (gV w_m_X2_28 w_im_yX2_add w_sel_yX2_add w_init_MicroMillModel w_co_yX2_add) rfl rfl rfl (by decide +kernel) ⟨Nat.le_trans (Nat.le_of_ble_eq_true rfl) hRf, Nat.le_trans (Nat.le_of_ble_eq_true rfl) hRl⟩) (preG (cl := clD o aw ar kI) (u := u) (N := 7) (ci := 2) hK hP (hD.weaken (fun _ _ _ _ => trivial)) rfl rfl _) rfl rfl hl.1 rfl (lv_room (Nat.le_of_ble_eq_true rfl)) dX2_find_131 ⟨Nat.zero_le _, Nat.zero_le _⟩) hD hS hA (fun H locs hP hD hS => ?_)
      refine lv_aload_n hx hb dX2_find_134 rfl (lv_at hl 0 rfl) ?_
      refine lv_aload_n hx hb dX2_find_135 rfl (lv_at hl 0 rfl) ?_
      refine va_get (D := D) (ci := 2) (v := .ref ar) (C := RX2) (T := TX2) (N := 7) hx hb hts hin0 hown hK hP 0 rfl rfl 1 (by decide) (hw w_f_X2_13) (fun _ h9 => h9) rfl dX2_find_136 ?_
      refine lv_iload hx hb dX2_find_139 (lv_at hl 2 rfl) ?_
      obtain ⟨b16, ht⟩ := oi_some ht
      refine va_iald hx hb hK hP 2 0 rfl rfl (ixk_in b16) dX2_find_141 ?_
      refine va_put (D := D) (ci := 2) (v := .int (r14.2.2.1 x4.toNatClampNeg)) (ty := .int) (C := RX2) (T := TX2) (N := 7) hx hb hts hin0 tyX2 tyX2_ok nmX2 hown hK hP hD hS 0 rfl rfl 6 (by decide) (hw w_f_X2_36) (fun _ h9 => h9) rfl (by decide +kernel) rfl rfl (Nat.le_of_ble_eq_true rfl) dX2_find_142 (fun H locs hP hD hS => ?_)
      have hP : va_P D vwCl (clD o aw ar kI (r14.2.1, r14.2.2.1, r14.2.2.2.1, r14.2.2.2.2.1, r14.2.2.2.2.2.1, r14.2.2.2.2.2.2.1, (r14.2.2.1 x4.toNatClampNeg))) H := hP
      have hD : va_D A (clD o aw ar kI (r14.2.1, r14.2.2.1, r14.2.2.2.1, r14.2.2.2.2.1, r14.2.2.2.2.2.1, r14.2.2.2.2.2.2.1, (r14.2.2.1 x4.toNatClampNeg))) := hD
      exact K145 _ _ _ (r14.2.1, r14.2.2.1, r14.2.2.2.1, r14.2.2.2.2.1, r14.2.2.2.2.2.1, r14.2.2.2.2.2.2.1, (r14.2.2.1 x4.toNatClampNeg)) x3 x4 x6 hP hD hS (lv_sub hl [0, 1, 2, 4] rfl) ht
  have K90 : ∀ (H : Heap) (locs : List Loc) (ls : Array Slot) (u : sD) (x3 : Int32) (x4 : Int32) (x5 : Int32) (x6 : Int32) (y0 : Int32) (y1 : Int32) , va_P D vwCl (clD o aw ar kI u) H → va_D A (clD o aw ar kI u) → va_S A s.heap H locs → lv_has ls 8 [(0, .ref o), (3, .int x3), (4, .int x4), (5, .int x5), (6, .int x6)] → fnD_find_90 u x3 x4 x5 x6 y0 y1 = some tg → W p l e R s m ([.ref o, .int a1, .int a2] : List Value).toArray below meth c H locs 0 0 Q (F0 m 90 ls [.int y0, .int y1, .ref o]) := by
    intro H locs ls u x3 x4 x5 x6 y0 y1 hP hD hS hl ht
    unfold fnD_find_90 at ht
    refine lv_iadd hx hb dX2_find_90 ?_
    refine va_put (D := D) (ci := 2) (v := .int (y1 + y0)) (ty := .int) (C := RX2) (T := TX2) (N := 7) hx hb hts hin0 tyX2 tyX2_ok nmX2 hown hK hP hD hS 0 rfl rfl 5 (by decide) (hw w_f_X2_39) (fun _ h9 => h9) rfl (by decide +kernel) rfl rfl (Nat.le_of_ble_eq_true rfl) dX2_find_91 (fun H locs hP hD hS => ?_)
    have hP : va_P D vwCl (clD o aw ar kI (u.1, u.2.1, u.2.2.1, u.2.2.2.1, u.2.2.2.2.1, (y1 + y0), u.2.2.2.2.2.2)) H := hP
    have hD : va_D A (clD o aw ar kI (u.1, u.2.1, u.2.2.1, u.2.2.2.1, u.2.2.2.2.1, (y1 + y0), u.2.2.2.2.2.2)) := hD
    refine lv_aload_n hx hb dX2_find_94 rfl (lv_at hl 0 rfl) ?_
    refine lv_aload_n hx hb dX2_find_95 rfl (lv_at hl 0 rfl) ?_
    refine va_get (D := D) (ci := 2) (v := .ref ar) (C := RX2) (T := TX2) (N := 7) hx hb hts hin0 hown hK hP 0 rfl rfl 1 (by decide) (hw w_f_X2_13) (fun _ h9 => h9) rfl dX2_find_96 ?_
    refine lv_iload hx hb dX2_find_99 (lv_at hl 2 rfl) ?_
    obtain ⟨b9, ht⟩ := oi_some ht
    refine va_iald hx hb hK hP 2 0 rfl rfl (ixk_in b9) dX2_find_101 ?_
    refine va_put (D := D) (ci := 2) (v := .int (u.2.1 x4.toNatClampNeg)) (ty := .int) (C := RX2) (T := TX2) (N := 7) hx hb hts hin0 tyX2 tyX2_ok nmX2 hown hK hP hD hS 0 rfl rfl 6 (by decide) (hw w_f_X2_36) (fun _ h9 => h9) rfl (by decide +kernel) rfl rfl (Nat.le_of_ble_eq_true rfl) dX2_find_102 (fun H locs hP hD hS => ?_)
    have hP : va_P D vwCl (clD o aw ar kI (u.1, u.2.1, u.2.2.1, u.2.2.2.1, u.2.2.2.2.1, (y1 + y0), (u.2.1 x4.toNatClampNeg))) H := hP
    have hD : va_D A (clD o aw ar kI (u.1, u.2.1, u.2.2.1, u.2.2.2.1, u.2.2.2.2.1, (y1 + y0), (u.2.1 x4.toNatClampNeg))) := hD
    refine lv_iload hx hb dX2_find_105 (lv_at hl 4 rfl) ?_
    refine lv_iconst (v := (1 : Int32)) hx hb dX2_find_107 (by decide) ?_
    refine lv_icmp_ne (tgt := 119) hx hb dX2_find_108 (by decide) (fun g10 => ?_) (fun g10 => ?_)
    · have ht := (if_neg g10).symm.trans ht
      exact K119 _ _ _ (u.1, u.2.1, u.2.2.1, u.2.2.2.1, u.2.2.2.2.1, (y1 + y0), (u.2.1 x4.toNatClampNeg)) x3 x4 x5 x6 hP hD hS (lv_sub hl [0, 1, 2, 3, 4] rfl) ht
    · have ht := (if_pos g10).symm.trans ht
      refine lv_aload_n hx hb dX2_find_111 rfl (lv_at hl 0 rfl) ?_
      refine lv_iload hx hb dX2_find_112 (lv_at hl 2 rfl) ?_
      refine lv_iload hx hb dX2_find_114 (lv_at hl 3 rfl) ?_
      obtain ⟨r11, h12, ht⟩ := ob_some ht
      refine kG_v (cl := clD o aw ar kI) (u := (u.1, u.2.1, u.2.2.1, u.2.2.2.1, u.2.2.2.2.1, (y1 + y0), (u.2.1 x4.toNatClampNeg))) (va_runV (As := [.int x4, .int x5]) (rest := []) ⟨hx, hb, hml, hown, hts⟩ (ctD_add l D kI o aw ar H.size (u.1, u.2.1, u.2.2.1, u.2.2.2.1, u.2.2.2.2.1, (y1 + y0), (u.2.1 x4.toNatClampNeg)) x4 x5 r11 h12) (cwV 2 hts (gV w_m_X2_28 w_im_yX2_add w_sel_yX2_add w_init_MicroMillModel w_co_yX2_add) rfl rfl rfl (by decide +kernel) ⟨Nat.le_trans (Nat.le_of_ble_eq_true rfl) hRf, Nat.le_trans (Nat.le_of_ble_eq_true rfl) hRl⟩) (preG (cl := clD o aw ar kI) (u := (u.1, u.2.1, u.2.2.1, u.2.2.2.1, u.2.2.2.2.1, (y1 + y0), (u.2.1 x4.toNatClampNeg))) (N := 7) (ci := 2) hK hP (hD.weaken (fun _ _ _ _ => trivial)) rfl rfl _) rfl rfl hl.1 rfl (lv_room (Nat.le_of_ble_eq_true rfl)) dX2_find_116 ⟨Nat.zero_le _, Nat.zero_le _⟩) hD hS hA (fun H locs hP hD hS => ?_)
      exact K119 _ _ _ r11.2 x3 x4 x5 x6 hP hD hS (lv_sub hl [0, 1, 2, 3, 4] rfl) ht
  have K35 : ∀ (H : Heap) (locs : List Loc) (ls : Array Slot) (u : sD) (x3 : Int32) (x4 : Int32) (y0 : Int32) , va_P D vwCl (clD o aw ar kI u) H → va_D A (clD o aw ar kI u) → va_S A s.heap H locs → lv_has ls 8 [(0, .ref o), (3, .int x3), (4, .int x4)] → fnD_find_35 u x3 x4 y0 = some tg → W p l e R s m ([.ref o, .int a1, .int a2] : List Value).toArray below meth c H locs 0 0 Q (F0 m 35 ls [.int y0]) := by
    intro H locs ls u x3 x4 y0 hP hD hS hl ht
    unfold fnD_find_35 at ht
    refine lv_istore (lv' := [(5, .int y0), (0, .ref o), (3, .int x3), (4, .int x4)]) hx hb dX2_find_35 hl (by decide) rfl (fun ls hl => ?_)
    refine lv_aload_n hx hb dX2_find_37 rfl (lv_at hl 1 rfl) ?_
    refine lv_iconst (v := (-1 : Int32)) hx hb dX2_find_38 (by decide) ?_
    refine lv_iload hx hb dX2_find_39 (lv_at hl 3 rfl) ?_
    refine lv_isub hx hb dX2_find_41 ?_
    refine lv_topi (fun z4 ez4 => ?_)
    have ht := nm_eq ez4 ht
    refine va_put (D := D) (ci := 2) (v := .int z4) (ty := .int) (C := RX2) (T := TX2) (N := 7) hx hb hts hin0 tyX2 tyX2_ok nmX2 hown hK hP hD hS 0 rfl rfl 6 (by decide) (hw w_f_X2_36) (fun _ h9 => h9) rfl (by decide +kernel) rfl rfl (Nat.le_of_ble_eq_true rfl) dX2_find_42 (fun H locs hP hD hS => ?_)
    have hP : va_P D vwCl (clD o aw ar kI (u.1, u.2.1, u.2.2.1, u.2.2.2.1, u.2.2.2.2.1, u.2.2.2.2.2.1, z4)) H := hP
    have hD : va_D A (clD o aw ar kI (u.1, u.2.1, u.2.2.1, u.2.2.2.1, u.2.2.2.2.1, u.2.2.2.2.2.1, z4)) := hD
    refine lv_iload_n hx hb dX2_find_45 rfl (lv_at hl 2 rfl) ?_
    refine lv_if_ne (tgt := 50) hx hb dX2_find_46 (by decide) (fun g5 => ?_) (fun g5 => ?_)
    · have ht := (if_neg g5).symm.trans ht
      refine lv_iload_n hx hb dX2_find_50 rfl (lv_at hl 2 rfl) ?_
      refine lv_iconst (v := (2 : Int32)) hx hb dX2_find_51 (by decide) ?_
      refine lv_idiv hx hb dX2_find_52 (by decide) ?_
      refine lv_istore (lv' := [(6, .int (x3 / (2 : Int32))), (5, .int y0), (0, .ref o), (3, .int x3), (4, .int x4)]) hx hb dX2_find_53 hl (by decide) rfl (fun ls hl => ?_)
      refine lv_aload_n hx hb dX2_find_55 rfl (lv_at hl 2 rfl) ?_
      refine lv_dup hx hb dX2_find_56 rfl ?_
      refine va_get (D := D) (ci := 2) (v := .int u.2.2.2.2.2.1) (C := RX2) (T := TX2) (N := 7) hx hb hts hin0 hown hK hP 0 rfl rfl 5 (by decide) (hw w_f_X2_39) (fun _ h9 => h9) rfl dX2_find_57 ?_
      refine lv_iload hx hb dX2_find_60 (lv_at hl 0 rfl) ?_
      refine lv_if_ne (tgt := 69) hx hb dX2_find_62 (by decide) (fun g6 => ?_) (fun g6 => ?_)
      · have ht := (if_neg g6).symm.trans ht
        refine lv_iload hx hb dX2_find_69 (lv_at hl 0 rfl) ?_
        refine lv_iconst (v := (1 : Int32)) hx hb dX2_find_71 (by decide) ?_
        refine lv_icmp_ne (tgt := 79) hx hb dX2_find_72 (by decide) (fun g7 => ?_) (fun g7 => ?_)
        · have ht := (if_neg g7).symm.trans ht
          refine lv_iload hx hb dX2_find_79 (lv_at hl 0 rfl) ?_
          refine lv_iconst (v := (2 : Int32)) hx hb dX2_find_81 (by decide) ?_
          refine lv_icmp_ne (tgt := 89) hx hb dX2_find_82 (by decide) (fun g8 => ?_) (fun g8 => ?_)
          · have ht := (if_neg g8).symm.trans ht
            refine lv_iconst (v := (3 : Int32)) hx hb dX2_find_89 (by decide) ?_
            exact K90 _ _ _ (u.1, u.2.1, u.2.2.1, u.2.2.2.1, u.2.2.2.2.1, u.2.2.2.2.2.1, z4) x3 x4 y0 (x3 / (2 : Int32)) (3 : Int32) u.2.2.2.2.2.1 hP hD hS (lv_sub hl [2, 3, 4, 1, 0] rfl) ht
          · have ht := (if_pos g8).symm.trans ht
            refine lv_iconst (v := (2 : Int32)) hx hb dX2_find_85 (by decide) ?_
            refine lv_goto (tgt := 90) hx hb dX2_find_86 (by decide) ?_
            exact K90 _ _ _ (u.1, u.2.1, u.2.2.1, u.2.2.2.1, u.2.2.2.2.1, u.2.2.2.2.2.1, z4) x3 x4 y0 (x3 / (2 : Int32)) (2 : Int32) u.2.2.2.2.2.1 hP hD hS (lv_sub hl [2, 3, 4, 1, 0] rfl) ht
        · have ht := (if_pos g7).symm.trans ht
          refine lv_iconst (v := (1 : Int32)) hx hb dX2_find_75 (by decide) ?_
          refine lv_goto (tgt := 90) hx hb dX2_find_76 (by decide) ?_
          exact K90 _ _ _ (u.1, u.2.1, u.2.2.1, u.2.2.2.1, u.2.2.2.2.1, u.2.2.2.2.2.1, z4) x3 x4 y0 (x3 / (2 : Int32)) (1 : Int32) u.2.2.2.2.2.1 hP hD hS (lv_sub hl [2, 3, 4, 1, 0] rfl) ht
      · have ht := (if_pos g6).symm.trans ht
        refine lv_iconst (v := (1 : Int32)) hx hb dX2_find_65 (by decide) ?_
        refine lv_goto (tgt := 90) hx hb dX2_find_66 (by decide) ?_
        exact K90 _ _ _ (u.1, u.2.1, u.2.2.1, u.2.2.2.1, u.2.2.2.2.1, u.2.2.2.2.2.1, z4) x3 x4 y0 (x3 / (2 : Int32)) (1 : Int32) u.2.2.2.2.2.1 hP hD hS (lv_sub hl [2, 3, 4, 1, 0] rfl) ht
    · have ht := (if_pos g5).symm.trans ht
      have e9 := Option.some.inj ht
      subst hQ
      exact W.vret hx hb hr (fun t ht9 hW => ⟨⟨(u.1, u.2.1, u.2.2.1, u.2.2.2.1, u.2.2.2.2.1, u.2.2.2.2.2.1, z4), rfl, pr2 e9, ⟨by rw [ht9]; exact hP, va_K.moved hW.alike hK, hD⟩⟩, hS.F ht9⟩) hS.2.2 dX2_find_49
  have K34 : ∀ (H : Heap) (locs : List Loc) (ls : Array Slot) (u : sD) (x3 : Int32) (x4 : Int32) , va_P D vwCl (clD o aw ar kI u) H → va_D A (clD o aw ar kI u) → va_S A s.heap H locs → lv_has ls 8 [(0, .ref o), (3, .int x3), (4, .int x4)] → fnD_find_34 u x3 x4 = some tg → W p l e R s m ([.ref o, .int a1, .int a2] : List Value).toArray below meth c H locs 0 0 Q (F0 m 34 ls []) := by
    intro H locs ls u x3 x4 hP hD hS hl ht
    unfold fnD_find_34 at ht
    refine lv_iconst (v := (2 : Int32)) hx hb dX2_find_34 (by decide) ?_
    exact K35 _ _ _ u x3 x4 (2 : Int32) hP hD hS (lv_sub hl [0, 1, 2] rfl) ht
  unfold fnD_find at ht
  obtain ⟨H, hHe⟩ : ∃ H : Heap, H = s.heap := ⟨_, rfl⟩
  have hP : va_P D vwCl (clD o aw ar kI u) H := by rw [hHe]; exact hP
  have hS : va_S A s.heap H [] := by rw [hHe]; exact va_S.rf
  rw [← hHe]
  refine lv_iload_n hx hb dX2_find_0 rfl (lv_at hl 1 rfl) ?_
  refine lv_iconst (v := (3 : Int32)) hx hb dX2_find_1 (by decide) ?_
  refine lv_ishr hx hb dX2_find_2 ?_
  refine lv_bipush (v := (7 : Int32)) hx hb dX2_find_3 (by decide) ?_
  refine lv_iand hx hb dX2_find_5 ?_
  refine lv_istore_n (lv' := [(3, .int ((a1 >>> ((3 : Int32) &&& 31)) &&& (7 : Int32))), (0, .ref o), (1, .int a1), (2, .int a2)]) hx hb dX2_find_6 rfl hl (by decide) rfl (fun ls hl => ?_)
  refine lv_iload_n hx hb dX2_find_7 rfl (lv_at hl 2 rfl) ?_
  refine lv_bipush (v := (7 : Int32)) hx hb dX2_find_8 (by decide) ?_
  refine lv_iand hx hb dX2_find_10 ?_
  refine lv_istore (lv' := [(4, .int (a1 &&& (7 : Int32))), (3, .int ((a1 >>> ((3 : Int32) &&& 31)) &&& (7 : Int32))), (0, .ref o), (1, .int a1), (2, .int a2)]) hx hb dX2_find_11 hl (by decide) rfl (fun ls hl => ?_)
  refine lv_iload_n hx hb dX2_find_13 rfl (lv_at hl 4 rfl) ?_
  refine lv_if_eq (tgt := 34) hx hb dX2_find_14 (by decide) (fun g1 => ?_) (fun g1 => ?_)
  · have ht := (if_pos g1).symm.trans ht
    exact K34 _ _ _ u ((a1 >>> ((3 : Int32) &&& 31)) &&& (7 : Int32)) (a1 &&& (7 : Int32)) hP hD hS (lv_sub hl [2, 1, 0] rfl) ht
  · have ht := (if_neg g1).symm.trans ht
    refine lv_iload_n hx hb dX2_find_17 rfl (lv_at hl 1 rfl) ?_
    refine lv_iconst (v := (2 : Int32)) hx hb dX2_find_18 (by decide) ?_
    refine lv_irem hx hb dX2_find_19 (by decide) ?_
    refine lv_if_ne (tgt := 34) hx hb dX2_find_20 (by decide) (fun g2 => ?_) (fun g2 => ?_)
    · have ht := (if_neg g2).symm.trans ht
      exact K34 _ _ _ u ((a1 >>> ((3 : Int32) &&& 31)) &&& (7 : Int32)) (a1 &&& (7 : Int32)) hP hD hS (lv_sub hl [2, 1, 0] rfl) ht
    · have ht := (if_pos g2).symm.trans ht
      refine lv_iload hx hb dX2_find_23 (lv_at hl 0 rfl) ?_
      refine lv_bipush (v := (6 : Int32)) hx hb dX2_find_25 (by decide) ?_
      refine lv_icmp_ge (tgt := 34) hx hb dX2_find_27 (by decide) (fun g3 => ?_) (fun g3 => ?_)
      · have ht := (if_pos g3).symm.trans ht
        exact K34 _ _ _ u ((a1 >>> ((3 : Int32) &&& 31)) &&& (7 : Int32)) (a1 &&& (7 : Int32)) hP hD hS (lv_sub hl [2, 1, 0] rfl) ht
      · have ht := (if_neg g3).symm.trans ht
        refine lv_iconst (v := (1 : Int32)) hx hb dX2_find_30 (by decide) ?_
        refine lv_goto (tgt := 35) hx hb dX2_find_31 (by decide) ?_
        exact K35 _ _ _ u ((a1 >>> ((3 : Int32) &&& 31)) &&& (7 : Int32)) (a1 &&& (7 : Int32)) (1 : Int32) hP hD hS (lv_sub hl [2, 1, 0] rfl) ht
def fnD_tell_43 (u : sD) (y0 : Int32) (y1 : Int32) : Option (Unit × sD) := some ((), (u.1, u.2.1, (y1 + y0), u.2.2.2.1, u.2.2.2.2.1, u.2.2.2.2.2.1, u.2.2.2.2.2.2))
def fnD_tell_32 (u : sD) (x4 : Int32) (y0 : Int32) (y1 : Int32) : Option (Unit × sD) := if x4 = 0 then (fnD_tell_43 u (0 : Int32) (y1 + y0)) else (fnD_tell_43 u (1 : Int32) (y1 + y0))
def fnD_tell_22 (u : sD) (x3 : Int32) (x4 : Int32) (y0 : Int32) (y1 : Int32) : Option (Unit × sD) := if x3 = 0 then (fnD_tell_32 u x4 (0 : Int32) (y1 + y0)) else (fnD_tell_32 u x4 (2 : Int32) (y1 + y0))
def fnD_tell_13 (u : sD) (x1 : Int32) (x3 : Int32) (x4 : Int32) (y0 : Int32) : Option (Unit × sD) := if x1 = 0 then (fnD_tell_22 u x3 x4 (4 : Int32) y0) else (fnD_tell_22 u x3 x4 (0 : Int32) y0)
def fnD_tell (u : sD) (a1 : Int32) (a2 : Int32) (a3 : Int32) (a4 : Int32) : Option (Unit × sD) := if (a1 &&& a2) = 0 then (fnD_tell_13 u a1 a3 a4 (0 : Int32)) else (fnD_tell_13 u a1 a3 a4 (8 : Int32))
set_option maxRecDepth 100000 in
set_option maxHeartbeats 4000000 in
theorem ctD_tell (l : Launch) (D : va_G) (kI : ClassId) (o aw ar : Nat) (sz : Nat) (u : sD) (a1 : Int32) (a2 : Int32) (a3 : Int32) (a4 : Int32) (tg : Unit × sD) (ht : fnD_tell u a1 a2 a3 a4 = some tg) : Met l yX2_tell (Cond.code yX2_tell cX2_tell 5 none :: wAll) ({ frames := 0, cells := 0, slots := 0, locals := 0 } : Room) (va_Pc [.ref o, .int a1, .int a2, .int a3, .int a4] (prG D kI (clD o aw ar kI) sz u)) (va_Qv (fun (v : sD) => v = tg.2) (poG D kI (clD o aw ar kI) (va_A (clD o aw ar kI u) sz)) (va_A (clD o aw ar kI u) sz)) 0 0 (va_A (clD o aw ar kI u) sz) := by
  refine mOfW (cc := cX2_tell) (maxL := 5) (ret := none) (by decide) rfl ?_
  intro p e s m args below meth c s₁ Q R hQ hR B hml hv
  obtain ⟨rfl, hsz, hP, hK, hD0⟩ := hv
  have hx := B.exec
  have hb := B.bytes
  have hr := B.returns
  have hts := atoms_spec (ws := Cond.code yX2_tell cX2_tell 5 none :: wAll) B.pre
  have hw : ∀ {w : Cond}, w ∈ wAll → w.before _ s = true := fun {w} h => hts w (List.mem_cons_of_mem _ h)
  have hown : s.vm.findClass RX2 = some m.cls := findClass_of_methodNamed B.named
  have hlocks := B.notSynchronized
  have hRf : 0 ≤ R.frames := by rw [hR]; exact Nat.le_refl _
  have hRl : 0 ≤ R.locals := by rw [hR]; exact Nat.le_refl _
  subst hsz
  have hD := hD0.self (sz := s.heap.size)
  generalize hAe : va_A (clD o aw ar kI u) s.heap.size = A at hD  hQ
  have hA : ∀ q : Nat, s.heap.size ≤ q → A q := fun q h => by rw [← hAe]; exact Or.inr h
  have hl := lv_entry ([.ref o, .int a1, .int a2, .int a3, .int a4]) (n := 5) (Nat.le_of_ble_eq_true rfl)
  rw [lg_entry_eq]
  generalize (lg_sl ([.ref o, .int a1, .int a2, .int a3, .int a4]) ++ List.replicate (5 - (lg_sl ([.ref o, .int a1, .int a2, .int a3, .int a4])).length) Slot.unset).toArray = ls at hl ⊢
  have hl : lv_has ls 5 [(0, .ref o), (1, .int a1), (2, .int a2), (3, .int a3), (4, .int a4)] := hl
  have hin0 : ∀ w ∈ u_ws RX2 TX2 7, w ∈ (Cond.code yX2_tell cX2_tell 5 none :: wAll) := fun w h => List.mem_cons_of_mem _ (w_flX2 w h)
  have K43 : ∀ (H : Heap) (locs : List Loc) (ls : Array Slot) (u : sD) (y0 : Int32) (y1 : Int32) , va_P D vwCl (clD o aw ar kI u) H → va_D A (clD o aw ar kI u) → va_S A s.heap H locs → lv_has ls 5 [] → fnD_tell_43 u y0 y1 = some tg → W p l e R s m ([.ref o, .int a1, .int a2, .int a3, .int a4] : List Value).toArray below meth c H locs 0 0 Q (F0 m 43 ls [.int y0, .int y1, .ref o]) := by
    intro H locs ls u y0 y1 hP hD hS hl ht
    unfold fnD_tell_43 at ht
    refine lv_iadd hx hb dX2_tell_43 ?_
    refine va_put (D := D) (ci := 2) (v := .int (y1 + y0)) (ty := .int) (C := RX2) (T := TX2) (N := 7) hx hb hts hin0 tyX2 tyX2_ok nmX2 hown hK hP hD hS 0 rfl rfl 2 (by decide) (hw w_f_X2_17) (fun _ h9 => h9) rfl (by decide +kernel) rfl rfl (Nat.le_of_ble_eq_true rfl) dX2_tell_44 (fun H locs hP hD hS => ?_)
    have hP : va_P D vwCl (clD o aw ar kI (u.1, u.2.1, (y1 + y0), u.2.2.2.1, u.2.2.2.2.1, u.2.2.2.2.2.1, u.2.2.2.2.2.2)) H := hP
    have hD : va_D A (clD o aw ar kI (u.1, u.2.1, (y1 + y0), u.2.2.2.1, u.2.2.2.2.1, u.2.2.2.2.2.1, u.2.2.2.2.2.2)) := hD
    have e9 := Option.some.inj ht
    subst hQ
    exact W.vret hx hb hr (fun t ht9 hW => ⟨⟨(u.1, u.2.1, (y1 + y0), u.2.2.2.1, u.2.2.2.2.1, u.2.2.2.2.2.1, u.2.2.2.2.2.2), rfl, pr2 e9, ⟨by rw [ht9]; exact hP, va_K.moved hW.alike hK, hD⟩⟩, hS.F ht9⟩) hS.2.2 dX2_tell_47
  have K32 : ∀ (H : Heap) (locs : List Loc) (ls : Array Slot) (u : sD) (x4 : Int32) (y0 : Int32) (y1 : Int32) , va_P D vwCl (clD o aw ar kI u) H → va_D A (clD o aw ar kI u) → va_S A s.heap H locs → lv_has ls 5 [(4, .int x4)] → fnD_tell_32 u x4 y0 y1 = some tg → W p l e R s m ([.ref o, .int a1, .int a2, .int a3, .int a4] : List Value).toArray below meth c H locs 0 0 Q (F0 m 32 ls [.int y0, .int y1, .ref o]) := by
    intro H locs ls u x4 y0 y1 hP hD hS hl ht
    unfold fnD_tell_32 at ht
    refine lv_iadd hx hb dX2_tell_32 ?_
    refine lv_iload hx hb dX2_tell_33 (lv_at hl 0 rfl) ?_
    refine lv_if_eq (tgt := 42) hx hb dX2_tell_35 (by decide) (fun g4 => ?_) (fun g4 => ?_)
    · have ht := (if_pos g4).symm.trans ht
      refine lv_iconst (v := (0 : Int32)) hx hb dX2_tell_42 (by decide) ?_
      exact K43 _ _ _ u (0 : Int32) (y1 + y0) hP hD hS (lv_sub hl [] rfl) ht
    · have ht := (if_neg g4).symm.trans ht
      refine lv_iconst (v := (1 : Int32)) hx hb dX2_tell_38 (by decide) ?_
      refine lv_goto (tgt := 43) hx hb dX2_tell_39 (by decide) ?_
      exact K43 _ _ _ u (1 : Int32) (y1 + y0) hP hD hS (lv_sub hl [] rfl) ht
  have K22 : ∀ (H : Heap) (locs : List Loc) (ls : Array Slot) (u : sD) (x3 : Int32) (x4 : Int32) (y0 : Int32) (y1 : Int32) , va_P D vwCl (clD o aw ar kI u) H → va_D A (clD o aw ar kI u) → va_S A s.heap H locs → lv_has ls 5 [(3, .int x3), (4, .int x4)] → fnD_tell_22 u x3 x4 y0 y1 = some tg → W p l e R s m ([.ref o, .int a1, .int a2, .int a3, .int a4] : List Value).toArray below meth c H locs 0 0 Q (F0 m 22 ls [.int y0, .int y1, .ref o]) := by
    intro H locs ls u x3 x4 y0 y1 hP hD hS hl ht
    unfold fnD_tell_22 at ht
    refine lv_iadd hx hb dX2_tell_22 ?_
    refine lv_iload_n hx hb dX2_tell_23 rfl (lv_at hl 0 rfl) ?_
    refine lv_if_eq (tgt := 31) hx hb dX2_tell_24 (by decide) (fun g3 => ?_) (fun g3 => ?_)
    · have ht := (if_pos g3).symm.trans ht
      refine lv_iconst (v := (0 : Int32)) hx hb dX2_tell_31 (by decide) ?_
      exact K32 _ _ _ u x4 (0 : Int32) (y1 + y0) hP hD hS (lv_sub hl [1] rfl) ht
    · have ht := (if_neg g3).symm.trans ht
      refine lv_iconst (v := (2 : Int32)) hx hb dX2_tell_27 (by decide) ?_
      refine lv_goto (tgt := 32) hx hb dX2_tell_28 (by decide) ?_
      exact K32 _ _ _ u x4 (2 : Int32) (y1 + y0) hP hD hS (lv_sub hl [1] rfl) ht
  have K13 : ∀ (H : Heap) (locs : List Loc) (ls : Array Slot) (u : sD) (x1 : Int32) (x3 : Int32) (x4 : Int32) (y0 : Int32) , va_P D vwCl (clD o aw ar kI u) H → va_D A (clD o aw ar kI u) → va_S A s.heap H locs → lv_has ls 5 [(1, .int x1), (3, .int x3), (4, .int x4)] → fnD_tell_13 u x1 x3 x4 y0 = some tg → W p l e R s m ([.ref o, .int a1, .int a2, .int a3, .int a4] : List Value).toArray below meth c H locs 0 0 Q (F0 m 13 ls [.int y0, .ref o]) := by
    intro H locs ls u x1 x3 x4 y0 hP hD hS hl ht
    unfold fnD_tell_13 at ht
    refine lv_iload_n hx hb dX2_tell_13 rfl (lv_at hl 0 rfl) ?_
    refine lv_if_ne (tgt := 21) hx hb dX2_tell_14 (by decide) (fun g2 => ?_) (fun g2 => ?_)
    · have ht := (if_neg g2).symm.trans ht
      refine lv_iconst (v := (0 : Int32)) hx hb dX2_tell_21 (by decide) ?_
      exact K22 _ _ _ u x3 x4 (0 : Int32) y0 hP hD hS (lv_sub hl [1, 2] rfl) ht
    · have ht := (if_pos g2).symm.trans ht
      refine lv_iconst (v := (4 : Int32)) hx hb dX2_tell_17 (by decide) ?_
      refine lv_goto (tgt := 22) hx hb dX2_tell_18 (by decide) ?_
      exact K22 _ _ _ u x3 x4 (4 : Int32) y0 hP hD hS (lv_sub hl [1, 2] rfl) ht
  unfold fnD_tell at ht
  obtain ⟨H, hHe⟩ : ∃ H : Heap, H = s.heap := ⟨_, rfl⟩
  have hP : va_P D vwCl (clD o aw ar kI u) H := by rw [hHe]; exact hP
  have hS : va_S A s.heap H [] := by rw [hHe]; exact va_S.rf
  rw [← hHe]
  refine lv_aload_n hx hb dX2_tell_0 rfl (lv_at hl 0 rfl) ?_
  refine lv_iload_n hx hb dX2_tell_1 rfl (lv_at hl 1 rfl) ?_
  refine lv_iload_n hx hb dX2_tell_2 rfl (lv_at hl 2 rfl) ?_
  refine lv_iand hx hb dX2_tell_3 ?_
  refine lv_if_eq (tgt := 12) hx hb dX2_tell_4 (by decide) (fun g1 => ?_) (fun g1 => ?_)
  · have ht := (if_pos g1).symm.trans ht
    refine lv_iconst (v := (0 : Int32)) hx hb dX2_tell_12 (by decide) ?_
    exact K13 _ _ _ u a1 a3 a4 (0 : Int32) hP hD hS (lv_sub hl [1, 3, 4] rfl) ht
  · have ht := (if_neg g1).symm.trans ht
    refine lv_bipush (v := (8 : Int32)) hx hb dX2_tell_7 (by decide) ?_
    refine lv_goto (tgt := 13) hx hb dX2_tell_9 (by decide) ?_
    exact K13 _ _ _ u a1 a3 a4 (8 : Int32) hP hD hS (lv_sub hl [1, 3, 4] rfl) ht
def fnD_moved_141 (u : sD) (x6 : Int32) (x7 : Int32) (y0 : Int32) (y1 : Int32) (y2 : Int32) : Option (Int32 × sD) := (fnD_tell u y2 y1 y0 x7).bind (fun r14 => some (x6, r14.2))
def fnD_moved_131 (u : sD) (x6 : Int32) (x7 : Int32) (y0 : Int32) (y1 : Int32) (y2 : Int32) : Option (Int32 × sD) := if y0 = x7 then (fnD_moved_141 u x6 x7 (0 : Int32) y1 y2) else (fnD_moved_141 u x6 x7 (1 : Int32) y1 y2)
def fnD_moved_113 (u : sD) (x3 : Int32) (x6 : Int32) (y0 : Int32) : Option (Int32 × sD) := if (x6 &&& x3) = 0 then (fnD_moved_131 u x6 y0 (0 : Int32) x3 x6) else (fnD_moved_131 u x6 y0 (1 : Int32) x3 x6)
def fnD_moved_104 (u : sD) (x3 : Int32) (x6 : Int32) (y0 : Int32) (y1 : Int32) : Option (Int32 × sD) := if (y1 &&& y0) = 0 then (fnD_moved_113 u x3 x6 (0 : Int32)) else (fnD_moved_113 u x3 x6 (1 : Int32))
def fnD_moved_93 (u : sD) (x2 : Int32) (x3 : Int32) (x5 : Int32) (x6 : Int32) : Option (Int32 × sD) := if x5 = 0 then (fnD_moved_104 u x3 x6 x3 x2) else (fnD_moved_104 u x3 x6 (1 : Int32) x2)
def fnD_moved_77 (u : sD) (x1 : Int32) (x2 : Int32) (x3 : Int32) (x4 : Int32) (x5 : Int32) (x6 : Int32) : Option (Int32 × sD) := if x1 = (1 : Int32) then (if x4 = 0 then (fnD_moved_93 u x2 x3 x5 x6) else (fnD_moved_93 u x2 x3 x5 (x6 ||| (1 : Int32)))) else (fnD_moved_93 u x2 x3 x5 x6)
def fnD_moved_71 (u : sD) (x1 : Int32) (x2 : Int32) (x3 : Int32) (x4 : Int32) (x5 : Int32) (x6 : Int32) : Option (Int32 × sD) := fnD_moved_77 u x1 x2 x3 x4 x5 (x6 ||| x3)
def fnD_moved_60 (u : sD) (x1 : Int32) (x2 : Int32) (x3 : Int32) (x4 : Int32) (x5 : Int32) (x6 : Int32) : Option (Int32 × sD) := if x1 = (2 : Int32) then (if (x2 &&& x3) = 0 then (fnD_moved_77 u x1 x2 x3 x4 x5 x6) else (fnD_moved_71 u x1 x2 x3 x4 x5 x6)) else (fnD_moved_77 u x1 x2 x3 x4 x5 x6)
def fnD_moved_49 (u : sD) (x1 : Int32) (x2 : Int32) (x3 : Int32) (x4 : Int32) (x5 : Int32) (y0 : Int32) : Option (Int32 × sD) := if x1 = 0 then (if x4 = 0 then (fnD_moved_60 u x1 x2 x3 x4 x5 y0) else (fnD_moved_71 u x1 x2 x3 x4 x5 y0)) else (fnD_moved_60 u x1 x2 x3 x4 x5 y0)
def fnD_moved_27 (u : sD) (x1 : Int32) (x2 : Int32) (x3 : Int32) (x4 : Int32) (y0 : Int32) : Option (Int32 × sD) := if y0 = 0 then (fnD_moved_49 u x1 x2 x3 x4 y0 ((x2 <<< ((1 : Int32) &&& 31)) &&& (((2 : Int32) * x3) - (1 : Int32)))) else (fnD_moved_49 u x1 x2 x3 x4 y0 (x2 >>> ((1 : Int32) &&& 31)))
def fnD_moved_14 (u : sD) (x1 : Int32) (x2 : Int32) (x3 : Int32) (y0 : Int32) : Option (Int32 × sD) := if (x1 - x1 / (2 : Int32) * (2 : Int32)) = 0 then (fnD_moved_27 u x1 x2 x3 y0 (1 : Int32)) else (fnD_moved_27 u x1 x2 x3 y0 (0 : Int32))
def fnD_moved (u : sD) (a1 : Int32) (a2 : Int32) (a3 : Int32) : Option (Int32 × sD) := if (u.2.2.1 &&& (1 : Int32)) = 0 then (fnD_moved_14 u a1 a2 a3 (0 : Int32)) else (fnD_moved_14 u a1 a2 a3 (1 : Int32))
set_option maxRecDepth 100000 in
set_option maxHeartbeats 4000000 in
theorem ctD_moved (l : Launch) (D : va_G) (kI : ClassId) (o aw ar : Nat) (sz : Nat) (u : sD) (a1 : Int32) (a2 : Int32) (a3 : Int32) (tg : Int32 × sD) (ht : fnD_moved u a1 a2 a3 = some tg) : Met l yX2_moved (Cond.code yX2_moved cX2_moved 8 (some .int) :: wAll) ({ frames := 1, cells := 0, slots := 0, locals := 24 } : Room) (va_Pc [.ref o, .int a1, .int a2, .int a3] (prG D kI (clD o aw ar kI) sz u)) (va_Qi (fun (x : Int32) (v : sD) => x = tg.1 ∧ v = tg.2) (poG D kI (clD o aw ar kI) (va_A (clD o aw ar kI u) sz)) (va_A (clD o aw ar kI u) sz)) 0 0 (va_A (clD o aw ar kI u) sz) := by
  refine mOfW (cc := cX2_moved) (maxL := 8) (ret := (some .int)) (by decide) rfl ?_
  intro p e s m args below meth c s₁ Q R hQ hR B hml hv
  obtain ⟨rfl, hsz, hP, hK, hD0⟩ := hv
  have hx := B.exec
  have hb := B.bytes
  have hr := B.returns
  have hts := atoms_spec (ws := Cond.code yX2_moved cX2_moved 8 (some .int) :: wAll) B.pre
  have hw : ∀ {w : Cond}, w ∈ wAll → w.before _ s = true := fun {w} h => hts w (List.mem_cons_of_mem _ h)
  have hown : s.vm.findClass RX2 = some m.cls := findClass_of_methodNamed B.named
  have hlocks := B.notSynchronized
  have hRf : 1 ≤ R.frames := by rw [hR]; exact Nat.le_refl _
  have hRl : 24 ≤ R.locals := by rw [hR]; exact Nat.le_refl _
  subst hsz
  have hD := hD0.self (sz := s.heap.size)
  generalize hAe : va_A (clD o aw ar kI u) s.heap.size = A at hD  hQ
  have hA : ∀ q : Nat, s.heap.size ≤ q → A q := fun q h => by rw [← hAe]; exact Or.inr h
  have hl := lv_entry ([.ref o, .int a1, .int a2, .int a3]) (n := 8) (Nat.le_of_ble_eq_true rfl)
  rw [lg_entry_eq]
  generalize (lg_sl ([.ref o, .int a1, .int a2, .int a3]) ++ List.replicate (8 - (lg_sl ([.ref o, .int a1, .int a2, .int a3])).length) Slot.unset).toArray = ls at hl ⊢
  have hl : lv_has ls 8 [(0, .ref o), (1, .int a1), (2, .int a2), (3, .int a3)] := hl
  have hin0 : ∀ w ∈ u_ws RX2 TX2 7, w ∈ (Cond.code yX2_moved cX2_moved 8 (some .int) :: wAll) := fun w h => List.mem_cons_of_mem _ (w_flX2 w h)
  have K141 : ∀ (H : Heap) (locs : List Loc) (ls : Array Slot) (u : sD) (x6 : Int32) (x7 : Int32) (y0 : Int32) (y1 : Int32) (y2 : Int32) , va_P D vwCl (clD o aw ar kI u) H → va_D A (clD o aw ar kI u) → va_S A s.heap H locs → lv_has ls 8 [(6, .int x6), (7, .int x7)] → fnD_moved_141 u x6 x7 y0 y1 y2 = some tg → W p l e R s m ([.ref o, .int a1, .int a2, .int a3] : List Value).toArray below meth c H locs 0 0 Q (F0 m 141 ls [.int y0, .int y1, .int y2, .ref o]) := by
    intro H locs ls u x6 x7 y0 y1 y2 hP hD hS hl ht
    unfold fnD_moved_141 at ht
    refine lv_iload hx hb dX2_moved_141 (lv_at hl 1 rfl) ?_
    obtain ⟨r14, h15, ht⟩ := ob_some ht
    refine kG_v (cl := clD o aw ar kI) (u := u) (va_runV (As := [.int y2, .int y1, .int y0, .int x7]) (rest := []) ⟨hx, hb, hml, hown, hts⟩ (ctD_tell l D kI o aw ar H.size u y2 y1 y0 x7 r14 h15) (cwV 4 hts (gV w_m_X2_50 w_im_yX2_tell w_sel_yX2_tell w_init_MicroMillModel w_co_yX2_tell) rfl rfl rfl (by decide +kernel) ⟨Nat.le_trans (Nat.le_of_ble_eq_true rfl) hRf, Nat.le_trans (Nat.le_of_ble_eq_true rfl) hRl⟩) (preG (cl := clD o aw ar kI) (u := u) (N := 7) (ci := 2) hK hP (hD.weaken (fun _ _ _ _ => trivial)) rfl rfl _) rfl rfl hl.1 rfl (lv_room (Nat.le_of_ble_eq_true rfl)) dX2_moved_143 ⟨Nat.zero_le _, Nat.zero_le _⟩) hD hS hA (fun H locs hP hD hS => ?_)
    refine lv_iload hx hb dX2_moved_146 (lv_at hl 0 rfl) ?_
    have e9 := Option.some.inj ht
    subst hQ
    exact W.iret (v := x6) hx hb hr (fun t ht9 hW => ⟨⟨x6, r14.2, rfl, ⟨pr1 e9, pr2 e9⟩, ⟨by rw [ht9]; exact hP, va_K.moved hW.alike hK, hD⟩⟩, hS.F ht9⟩) hS.2.2 dX2_moved_148
  have K131 : ∀ (H : Heap) (locs : List Loc) (ls : Array Slot) (u : sD) (x6 : Int32) (x7 : Int32) (y0 : Int32) (y1 : Int32) (y2 : Int32) , va_P D vwCl (clD o aw ar kI u) H → va_D A (clD o aw ar kI u) → va_S A s.heap H locs → lv_has ls 8 [(6, .int x6), (7, .int x7)] → fnD_moved_131 u x6 x7 y0 y1 y2 = some tg → W p l e R s m ([.ref o, .int a1, .int a2, .int a3] : List Value).toArray below meth c H locs 0 0 Q (F0 m 131 ls [.int y0, .int y1, .int y2, .ref o]) := by
    intro H locs ls u x6 x7 y0 y1 y2 hP hD hS hl ht
    unfold fnD_moved_131 at ht
    refine lv_iload hx hb dX2_moved_131 (lv_at hl 1 rfl) ?_
    refine lv_icmp_eq (tgt := 140) hx hb dX2_moved_133 (by decide) (fun g13 => ?_) (fun g13 => ?_)
    · have ht := (if_pos g13).symm.trans ht
      refine lv_iconst (v := (0 : Int32)) hx hb dX2_moved_140 (by decide) ?_
      exact K141 _ _ _ u x6 x7 (0 : Int32) y1 y2 hP hD hS (lv_sub hl [0, 1] rfl) ht
    · have ht := (if_neg g13).symm.trans ht
      refine lv_iconst (v := (1 : Int32)) hx hb dX2_moved_136 (by decide) ?_
      refine lv_goto (tgt := 141) hx hb dX2_moved_137 (by decide) ?_
      exact K141 _ _ _ u x6 x7 (1 : Int32) y1 y2 hP hD hS (lv_sub hl [0, 1] rfl) ht
  have K113 : ∀ (H : Heap) (locs : List Loc) (ls : Array Slot) (u : sD) (x3 : Int32) (x6 : Int32) (y0 : Int32) , va_P D vwCl (clD o aw ar kI u) H → va_D A (clD o aw ar kI u) → va_S A s.heap H locs → lv_has ls 8 [(0, .ref o), (3, .int x3), (6, .int x6)] → fnD_moved_113 u x3 x6 y0 = some tg → W p l e R s m ([.ref o, .int a1, .int a2, .int a3] : List Value).toArray below meth c H locs 0 0 Q (F0 m 113 ls [.int y0]) := by
    intro H locs ls u x3 x6 y0 hP hD hS hl ht
    unfold fnD_moved_113 at ht
    refine lv_istore (lv' := [(7, .int y0), (0, .ref o), (3, .int x3), (6, .int x6)]) hx hb dX2_moved_113 hl (by decide) rfl (fun ls hl => ?_)
    refine lv_aload_n hx hb dX2_moved_115 rfl (lv_at hl 1 rfl) ?_
    refine lv_iload hx hb dX2_moved_116 (lv_at hl 3 rfl) ?_
    refine lv_iload_n hx hb dX2_moved_118 rfl (lv_at hl 2 rfl) ?_
    refine lv_iload hx hb dX2_moved_119 (lv_at hl 3 rfl) ?_
    refine lv_iload_n hx hb dX2_moved_121 rfl (lv_at hl 2 rfl) ?_
    refine lv_iand hx hb dX2_moved_122 ?_
    refine lv_if_eq (tgt := 130) hx hb dX2_moved_123 (by decide) (fun g12 => ?_) (fun g12 => ?_)
    · have ht := (if_pos g12).symm.trans ht
      refine lv_iconst (v := (0 : Int32)) hx hb dX2_moved_130 (by decide) ?_
      exact K131 _ _ _ u x6 y0 (0 : Int32) x3 x6 hP hD hS (lv_sub hl [3, 0] rfl) ht
    · have ht := (if_neg g12).symm.trans ht
      refine lv_iconst (v := (1 : Int32)) hx hb dX2_moved_126 (by decide) ?_
      refine lv_goto (tgt := 131) hx hb dX2_moved_127 (by decide) ?_
      exact K131 _ _ _ u x6 y0 (1 : Int32) x3 x6 hP hD hS (lv_sub hl [3, 0] rfl) ht
  have K104 : ∀ (H : Heap) (locs : List Loc) (ls : Array Slot) (u : sD) (x3 : Int32) (x6 : Int32) (y0 : Int32) (y1 : Int32) , va_P D vwCl (clD o aw ar kI u) H → va_D A (clD o aw ar kI u) → va_S A s.heap H locs → lv_has ls 8 [(0, .ref o), (3, .int x3), (6, .int x6)] → fnD_moved_104 u x3 x6 y0 y1 = some tg → W p l e R s m ([.ref o, .int a1, .int a2, .int a3] : List Value).toArray below meth c H locs 0 0 Q (F0 m 104 ls [.int y0, .int y1]) := by
    intro H locs ls u x3 x6 y0 y1 hP hD hS hl ht
    unfold fnD_moved_104 at ht
    refine lv_iand hx hb dX2_moved_104 ?_
    refine lv_if_eq (tgt := 112) hx hb dX2_moved_105 (by decide) (fun g11 => ?_) (fun g11 => ?_)
    · have ht := (if_pos g11).symm.trans ht
      refine lv_iconst (v := (0 : Int32)) hx hb dX2_moved_112 (by decide) ?_
      exact K113 _ _ _ u x3 x6 (0 : Int32) hP hD hS (lv_sub hl [0, 1, 2] rfl) ht
    · have ht := (if_neg g11).symm.trans ht
      refine lv_iconst (v := (1 : Int32)) hx hb dX2_moved_108 (by decide) ?_
      refine lv_goto (tgt := 113) hx hb dX2_moved_109 (by decide) ?_
      exact K113 _ _ _ u x3 x6 (1 : Int32) hP hD hS (lv_sub hl [0, 1, 2] rfl) ht
  have K93 : ∀ (H : Heap) (locs : List Loc) (ls : Array Slot) (u : sD) (x2 : Int32) (x3 : Int32) (x5 : Int32) (x6 : Int32) , va_P D vwCl (clD o aw ar kI u) H → va_D A (clD o aw ar kI u) → va_S A s.heap H locs → lv_has ls 8 [(0, .ref o), (2, .int x2), (3, .int x3), (5, .int x5), (6, .int x6)] → fnD_moved_93 u x2 x3 x5 x6 = some tg → W p l e R s m ([.ref o, .int a1, .int a2, .int a3] : List Value).toArray below meth c H locs 0 0 Q (F0 m 93 ls []) := by
    intro H locs ls u x2 x3 x5 x6 hP hD hS hl ht
    unfold fnD_moved_93 at ht
    refine lv_iload_n hx hb dX2_moved_93 rfl (lv_at hl 1 rfl) ?_
    refine lv_iload hx hb dX2_moved_94 (lv_at hl 3 rfl) ?_
    refine lv_if_eq (tgt := 103) hx hb dX2_moved_96 (by decide) (fun g10 => ?_) (fun g10 => ?_)
    · have ht := (if_pos g10).symm.trans ht
      refine lv_iload_n hx hb dX2_moved_103 rfl (lv_at hl 2 rfl) ?_
      exact K104 _ _ _ u x3 x6 x3 x2 hP hD hS (lv_sub hl [0, 2, 4] rfl) ht
    · have ht := (if_neg g10).symm.trans ht
      refine lv_iconst (v := (1 : Int32)) hx hb dX2_moved_99 (by decide) ?_
      refine lv_goto (tgt := 104) hx hb dX2_moved_100 (by decide) ?_
      exact K104 _ _ _ u x3 x6 (1 : Int32) x2 hP hD hS (lv_sub hl [0, 2, 4] rfl) ht
  have K77 : ∀ (H : Heap) (locs : List Loc) (ls : Array Slot) (u : sD) (x1 : Int32) (x2 : Int32) (x3 : Int32) (x4 : Int32) (x5 : Int32) (x6 : Int32) , va_P D vwCl (clD o aw ar kI u) H → va_D A (clD o aw ar kI u) → va_S A s.heap H locs → lv_has ls 8 [(0, .ref o), (1, .int x1), (2, .int x2), (3, .int x3), (4, .int x4), (5, .int x5), (6, .int x6)] → fnD_moved_77 u x1 x2 x3 x4 x5 x6 = some tg → W p l e R s m ([.ref o, .int a1, .int a2, .int a3] : List Value).toArray below meth c H locs 0 0 Q (F0 m 77 ls []) := by
    intro H locs ls u x1 x2 x3 x4 x5 x6 hP hD hS hl ht
    unfold fnD_moved_77 at ht
    refine lv_iload_n hx hb dX2_moved_77 rfl (lv_at hl 1 rfl) ?_
    refine lv_iconst (v := (1 : Int32)) hx hb dX2_moved_78 (by decide) ?_
    refine lv_icmp_ne (tgt := 93) hx hb dX2_moved_79 (by decide) (fun g8 => ?_) (fun g8 => ?_)
    · have ht := (if_neg g8).symm.trans ht
      exact K93 _ _ _ u x2 x3 x5 x6 hP hD hS (lv_sub hl [0, 2, 3, 5, 6] rfl) ht
    · have ht := (if_pos g8).symm.trans ht
      refine lv_iload hx hb dX2_moved_82 (lv_at hl 4 rfl) ?_
      refine lv_if_eq (tgt := 93) hx hb dX2_moved_84 (by decide) (fun g9 => ?_) (fun g9 => ?_)
      · have ht := (if_pos g9).symm.trans ht
        exact K93 _ _ _ u x2 x3 x5 x6 hP hD hS (lv_sub hl [0, 2, 3, 5, 6] rfl) ht
      · have ht := (if_neg g9).symm.trans ht
        refine lv_iload hx hb dX2_moved_87 (lv_at hl 6 rfl) ?_
        refine lv_iconst (v := (1 : Int32)) hx hb dX2_moved_89 (by decide) ?_
        refine lv_ior hx hb dX2_moved_90 ?_
        refine lv_istore (lv' := [(6, .int (x6 ||| (1 : Int32))), (0, .ref o), (1, .int x1), (2, .int x2), (3, .int x3), (4, .int x4), (5, .int x5)]) hx hb dX2_moved_91 hl (by decide) rfl (fun ls hl => ?_)
        exact K93 _ _ _ u x2 x3 x5 (x6 ||| (1 : Int32)) hP hD hS (lv_sub hl [1, 3, 4, 6, 0] rfl) ht
  have K71 : ∀ (H : Heap) (locs : List Loc) (ls : Array Slot) (u : sD) (x1 : Int32) (x2 : Int32) (x3 : Int32) (x4 : Int32) (x5 : Int32) (x6 : Int32) , va_P D vwCl (clD o aw ar kI u) H → va_D A (clD o aw ar kI u) → va_S A s.heap H locs → lv_has ls 8 [(0, .ref o), (1, .int x1), (2, .int x2), (3, .int x3), (4, .int x4), (5, .int x5), (6, .int x6)] → fnD_moved_71 u x1 x2 x3 x4 x5 x6 = some tg → W p l e R s m ([.ref o, .int a1, .int a2, .int a3] : List Value).toArray below meth c H locs 0 0 Q (F0 m 71 ls []) := by
    intro H locs ls u x1 x2 x3 x4 x5 x6 hP hD hS hl ht
    unfold fnD_moved_71 at ht
    refine lv_iload hx hb dX2_moved_71 (lv_at hl 6 rfl) ?_
    refine lv_iload_n hx hb dX2_moved_73 rfl (lv_at hl 3 rfl) ?_
    refine lv_ior hx hb dX2_moved_74 ?_
    refine lv_istore (lv' := [(6, .int (x6 ||| x3)), (0, .ref o), (1, .int x1), (2, .int x2), (3, .int x3), (4, .int x4), (5, .int x5)]) hx hb dX2_moved_75 hl (by decide) rfl (fun ls hl => ?_)
    exact K77 _ _ _ u x1 x2 x3 x4 x5 (x6 ||| x3) hP hD hS (lv_sub hl [1, 2, 3, 4, 5, 6, 0] rfl) ht
  have K60 : ∀ (H : Heap) (locs : List Loc) (ls : Array Slot) (u : sD) (x1 : Int32) (x2 : Int32) (x3 : Int32) (x4 : Int32) (x5 : Int32) (x6 : Int32) , va_P D vwCl (clD o aw ar kI u) H → va_D A (clD o aw ar kI u) → va_S A s.heap H locs → lv_has ls 8 [(0, .ref o), (1, .int x1), (2, .int x2), (3, .int x3), (4, .int x4), (5, .int x5), (6, .int x6)] → fnD_moved_60 u x1 x2 x3 x4 x5 x6 = some tg → W p l e R s m ([.ref o, .int a1, .int a2, .int a3] : List Value).toArray below meth c H locs 0 0 Q (F0 m 60 ls []) := by
    intro H locs ls u x1 x2 x3 x4 x5 x6 hP hD hS hl ht
    unfold fnD_moved_60 at ht
    refine lv_iload_n hx hb dX2_moved_60 rfl (lv_at hl 1 rfl) ?_
    refine lv_iconst (v := (2 : Int32)) hx hb dX2_moved_61 (by decide) ?_
    refine lv_icmp_ne (tgt := 77) hx hb dX2_moved_62 (by decide) (fun g6 => ?_) (fun g6 => ?_)
    · have ht := (if_neg g6).symm.trans ht
      exact K77 _ _ _ u x1 x2 x3 x4 x5 x6 hP hD hS (lv_sub hl [0, 1, 2, 3, 4, 5, 6] rfl) ht
    · have ht := (if_pos g6).symm.trans ht
      refine lv_iload_n hx hb dX2_moved_65 rfl (lv_at hl 2 rfl) ?_
      refine lv_iload_n hx hb dX2_moved_66 rfl (lv_at hl 3 rfl) ?_
      refine lv_iand hx hb dX2_moved_67 ?_
      refine lv_if_eq (tgt := 77) hx hb dX2_moved_68 (by decide) (fun g7 => ?_) (fun g7 => ?_)
      · have ht := (if_pos g7).symm.trans ht
        exact K77 _ _ _ u x1 x2 x3 x4 x5 x6 hP hD hS (lv_sub hl [0, 1, 2, 3, 4, 5, 6] rfl) ht
      · have ht := (if_neg g7).symm.trans ht
        exact K71 _ _ _ u x1 x2 x3 x4 x5 x6 hP hD hS (lv_sub hl [0, 1, 2, 3, 4, 5, 6] rfl) ht
  have K49 : ∀ (H : Heap) (locs : List Loc) (ls : Array Slot) (u : sD) (x1 : Int32) (x2 : Int32) (x3 : Int32) (x4 : Int32) (x5 : Int32) (y0 : Int32) , va_P D vwCl (clD o aw ar kI u) H → va_D A (clD o aw ar kI u) → va_S A s.heap H locs → lv_has ls 8 [(0, .ref o), (1, .int x1), (2, .int x2), (3, .int x3), (4, .int x4), (5, .int x5)] → fnD_moved_49 u x1 x2 x3 x4 x5 y0 = some tg → W p l e R s m ([.ref o, .int a1, .int a2, .int a3] : List Value).toArray below meth c H locs 0 0 Q (F0 m 49 ls [.int y0]) := by
    intro H locs ls u x1 x2 x3 x4 x5 y0 hP hD hS hl ht
    unfold fnD_moved_49 at ht
    refine lv_istore (lv' := [(6, .int y0), (0, .ref o), (1, .int x1), (2, .int x2), (3, .int x3), (4, .int x4), (5, .int x5)]) hx hb dX2_moved_49 hl (by decide) rfl (fun ls hl => ?_)
    refine lv_iload_n hx hb dX2_moved_51 rfl (lv_at hl 2 rfl) ?_
    refine lv_if_ne (tgt := 60) hx hb dX2_moved_52 (by decide) (fun g4 => ?_) (fun g4 => ?_)
    · have ht := (if_neg g4).symm.trans ht
      exact K60 _ _ _ u x1 x2 x3 x4 x5 y0 hP hD hS (lv_sub hl [1, 2, 3, 4, 5, 6, 0] rfl) ht
    · have ht := (if_pos g4).symm.trans ht
      refine lv_iload hx hb dX2_moved_55 (lv_at hl 5 rfl) ?_
      refine lv_if_ne (tgt := 71) hx hb dX2_moved_57 (by decide) (fun g5 => ?_) (fun g5 => ?_)
      · have ht := (if_neg g5).symm.trans ht
        exact K71 _ _ _ u x1 x2 x3 x4 x5 y0 hP hD hS (lv_sub hl [1, 2, 3, 4, 5, 6, 0] rfl) ht
      · have ht := (if_pos g5).symm.trans ht
        exact K60 _ _ _ u x1 x2 x3 x4 x5 y0 hP hD hS (lv_sub hl [1, 2, 3, 4, 5, 6, 0] rfl) ht
  have K27 : ∀ (H : Heap) (locs : List Loc) (ls : Array Slot) (u : sD) (x1 : Int32) (x2 : Int32) (x3 : Int32) (x4 : Int32) (y0 : Int32) , va_P D vwCl (clD o aw ar kI u) H → va_D A (clD o aw ar kI u) → va_S A s.heap H locs → lv_has ls 8 [(0, .ref o), (1, .int x1), (2, .int x2), (3, .int x3), (4, .int x4)] → fnD_moved_27 u x1 x2 x3 x4 y0 = some tg → W p l e R s m ([.ref o, .int a1, .int a2, .int a3] : List Value).toArray below meth c H locs 0 0 Q (F0 m 27 ls [.int y0]) := by
    intro H locs ls u x1 x2 x3 x4 y0 hP hD hS hl ht
    unfold fnD_moved_27 at ht
    refine lv_istore (lv' := [(5, .int y0), (0, .ref o), (1, .int x1), (2, .int x2), (3, .int x3), (4, .int x4)]) hx hb dX2_moved_27 hl (by decide) rfl (fun ls hl => ?_)
    refine lv_iload hx hb dX2_moved_29 (lv_at hl 0 rfl) ?_
    refine lv_if_eq (tgt := 40) hx hb dX2_moved_31 (by decide) (fun g3 => ?_) (fun g3 => ?_)
    · have ht := (if_pos g3).symm.trans ht
      refine lv_iload_n hx hb dX2_moved_40 rfl (lv_at hl 3 rfl) ?_
      refine lv_iconst (v := (1 : Int32)) hx hb dX2_moved_41 (by decide) ?_
      refine lv_ishl hx hb dX2_moved_42 ?_
      refine lv_iconst (v := (2 : Int32)) hx hb dX2_moved_43 (by decide) ?_
      refine lv_iload_n hx hb dX2_moved_44 rfl (lv_at hl 4 rfl) ?_
      refine lv_imul hx hb dX2_moved_45 ?_
      refine lv_iconst (v := (1 : Int32)) hx hb dX2_moved_46 (by decide) ?_
      refine lv_isub hx hb dX2_moved_47 ?_
      refine lv_iand hx hb dX2_moved_48 ?_
      exact K49 _ _ _ u x1 x2 x3 x4 y0 ((x2 <<< ((1 : Int32) &&& 31)) &&& (((2 : Int32) * x3) - (1 : Int32))) hP hD hS (lv_sub hl [1, 2, 3, 4, 5, 0] rfl) ht
    · have ht := (if_neg g3).symm.trans ht
      refine lv_iload_n hx hb dX2_moved_34 rfl (lv_at hl 3 rfl) ?_
      refine lv_iconst (v := (1 : Int32)) hx hb dX2_moved_35 (by decide) ?_
      refine lv_ishr hx hb dX2_moved_36 ?_
      refine lv_goto (tgt := 49) hx hb dX2_moved_37 (by decide) ?_
      exact K49 _ _ _ u x1 x2 x3 x4 y0 (x2 >>> ((1 : Int32) &&& 31)) hP hD hS (lv_sub hl [1, 2, 3, 4, 5, 0] rfl) ht
  have K14 : ∀ (H : Heap) (locs : List Loc) (ls : Array Slot) (u : sD) (x1 : Int32) (x2 : Int32) (x3 : Int32) (y0 : Int32) , va_P D vwCl (clD o aw ar kI u) H → va_D A (clD o aw ar kI u) → va_S A s.heap H locs → lv_has ls 8 [(0, .ref o), (1, .int x1), (2, .int x2), (3, .int x3)] → fnD_moved_14 u x1 x2 x3 y0 = some tg → W p l e R s m ([.ref o, .int a1, .int a2, .int a3] : List Value).toArray below meth c H locs 0 0 Q (F0 m 14 ls [.int y0]) := by
    intro H locs ls u x1 x2 x3 y0 hP hD hS hl ht
    unfold fnD_moved_14 at ht
    refine lv_istore (lv' := [(4, .int y0), (0, .ref o), (1, .int x1), (2, .int x2), (3, .int x3)]) hx hb dX2_moved_14 hl (by decide) rfl (fun ls hl => ?_)
    refine lv_iload_n hx hb dX2_moved_16 rfl (lv_at hl 2 rfl) ?_
    refine lv_iconst (v := (2 : Int32)) hx hb dX2_moved_17 (by decide) ?_
    refine lv_irem hx hb dX2_moved_18 (by decide) ?_
    refine lv_if_ne (tgt := 26) hx hb dX2_moved_19 (by decide) (fun g2 => ?_) (fun g2 => ?_)
    · have ht := (if_neg g2).symm.trans ht
      refine lv_iconst (v := (0 : Int32)) hx hb dX2_moved_26 (by decide) ?_
      exact K27 _ _ _ u x1 x2 x3 y0 (0 : Int32) hP hD hS (lv_sub hl [1, 2, 3, 4, 0] rfl) ht
    · have ht := (if_pos g2).symm.trans ht
      refine lv_iconst (v := (1 : Int32)) hx hb dX2_moved_22 (by decide) ?_
      refine lv_goto (tgt := 27) hx hb dX2_moved_23 (by decide) ?_
      exact K27 _ _ _ u x1 x2 x3 y0 (1 : Int32) hP hD hS (lv_sub hl [1, 2, 3, 4, 0] rfl) ht
  unfold fnD_moved at ht
  obtain ⟨H, hHe⟩ : ∃ H : Heap, H = s.heap := ⟨_, rfl⟩
  have hP : va_P D vwCl (clD o aw ar kI u) H := by rw [hHe]; exact hP
  have hS : va_S A s.heap H [] := by rw [hHe]; exact va_S.rf
  rw [← hHe]
  refine lv_aload_n hx hb dX2_moved_0 rfl (lv_at hl 0 rfl) ?_
  refine va_get (D := D) (ci := 2) (v := .int u.2.2.1) (C := RX2) (T := TX2) (N := 7) hx hb hts hin0 hown hK hP 0 rfl rfl 2 (by decide) (hw w_f_X2_17) (fun _ h9 => h9) rfl dX2_moved_1 ?_
  refine lv_iconst (v := (1 : Int32)) hx hb dX2_moved_4 (by decide) ?_
  refine lv_iand hx hb dX2_moved_5 ?_
  refine lv_if_eq (tgt := 13) hx hb dX2_moved_6 (by decide) (fun g1 => ?_) (fun g1 => ?_)
  · have ht := (if_pos g1).symm.trans ht
    refine lv_iconst (v := (0 : Int32)) hx hb dX2_moved_13 (by decide) ?_
    exact K14 _ _ _ u a1 a2 a3 (0 : Int32) hP hD hS (lv_sub hl [0, 1, 2, 3] rfl) ht
  · have ht := (if_neg g1).symm.trans ht
    refine lv_iconst (v := (1 : Int32)) hx hb dX2_moved_9 (by decide) ?_
    refine lv_goto (tgt := 14) hx hb dX2_moved_10 (by decide) ?_
    exact K14 _ _ _ u a1 a2 a3 (1 : Int32) hP hD hS (lv_sub hl [0, 1, 2, 3] rfl) ht
