def fnA_cycles (u : sA) : Option (Int64 × sA) := some (u.2.2.2.1, u)
set_option maxRecDepth 100000 in
set_option maxHeartbeats 4000000 in
theorem ctA_cycles (l : Launch) (D : va_G) (kI : ClassId) (tb : Nat) (o aw ar ak : Nat) (sz : Nat) (u : sA) (tg : Int64 × sA) (ht : fnA_cycles u  = some tg) : Met l yX1_cycles (Cond.code yX1_cycles cX1_cycles 1 (some .long) :: wAll) ({ frames := 0, cells := 0, slots := 0, locals := 0 } : Room) (va_Pc [.ref o] (prA D kI tb o aw ar ak sz u)) (va_Ql (fun (x : Int64) (v : sA) => x = tg.1 ∧ v = tg.2) (poG D kI (clA o aw ar ak kI) (va_A (clA o aw ar ak kI u) sz)) (va_A (clA o aw ar ak kI u) sz)) 0 0 (va_A (clA o aw ar ak kI u) sz) := by
  refine mOfW (cc := cX1_cycles) (maxL := 1) (ret := (some .long)) (by decide) rfl ?_
  intro p e s m args below meth c s₁ Q R hQ hR B hml hv
  obtain ⟨rfl, hsz, hP, hK, hD0, hZ⟩ := hv
  have hx := B.exec
  have hb := B.bytes
  have hr := B.returns
  have hts := atoms_spec (ws := Cond.code yX1_cycles cX1_cycles 1 (some .long) :: wAll) B.pre
  have hw : ∀ {w : Cond}, w ∈ wAll → w.before _ s = true := fun {w} h => hts w (List.mem_cons_of_mem _ h)
  have hown : s.vm.findClass RX1 = some m.cls := findClass_of_methodNamed B.named
  have hlocks := B.notSynchronized
  have hRf : 0 ≤ R.frames := by rw [hR]; exact Nat.le_refl _
  have hRl : 0 ≤ R.locals := by rw [hR]; exact Nat.le_refl _
  subst hsz
  have hD := hD0.self (sz := s.heap.size)
  generalize hAe : va_A (clA o aw ar ak kI u) s.heap.size = A at hD hZ hQ
  have hA : ∀ q : Nat, s.heap.size ≤ q → A q := fun q h => by rw [← hAe]; exact Or.inr h
  have hl := lv_entry ([.ref o]) (n := 1) (Nat.le_of_ble_eq_true rfl)
  rw [lg_entry_eq]
  generalize (lg_sl ([.ref o]) ++ List.replicate (1 - (lg_sl ([.ref o])).length) Slot.unset).toArray = ls at hl ⊢
  have hl : lv_has ls 1 [(0, .ref o)] := hl
  have hin0 : ∀ w ∈ u_ws RX1 TX1 7, w ∈ (Cond.code yX1_cycles cX1_cycles 1 (some .long) :: wAll) := fun w h => List.mem_cons_of_mem _ (w_flX1 w h)
  unfold fnA_cycles at ht
  obtain ⟨H, hHe⟩ : ∃ H : Heap, H = s.heap := ⟨_, rfl⟩
  have hP : va_P D vwCl (clA o aw ar ak kI u) H := by rw [hHe]; exact hP
  have hS : va_S A s.heap H [] := by rw [hHe]; exact va_S.rf
  rw [← hHe]
  refine lv_aload_n hx hb dX1_cycles_0 rfl (lv_at hl 0 rfl) ?_
  refine va_get (D := D) (ci := 1) (v := .long u.2.2.2.1) (C := RX1) (T := TX1) (N := 7) hx hb hts hin0 hown hK hP 0 rfl rfl 4 (by decide) (hw w_f_X1_27) (fun _ h9 => h9) rfl dX1_cycles_1 ?_
  have e9 := Option.some.inj ht
  subst hQ
  exact W.lret (v := u.2.2.2.1) hx hb hr (fun t ht9 hW => ⟨⟨u.2.2.2.1, u, rfl, ⟨pr1 e9, pr2 e9⟩, ⟨by rw [ht9]; exact hP, va_K.moved hW.alike hK, hD⟩⟩, hS.F ht9⟩) hS.2.2 dX1_cycles_4
def fnA_doBranch_56 (u : sA) : Option (Unit × sA) := some ((), u)
def fnA_doBranch (u : sA) (a1 : Int32) : Option (Unit × sA) := (fnW_allows u.2.2.2.2.2.2 (a1 >>> ((8 : Int32) &&& 31))).bind (fun r1 => if r1.1 = 0 then (fnA_doBranch_56 (u.1, u.2.1, u.2.2.1, u.2.2.2.1, (u.2.2.2.2.1 + (1 : Int32)), u.2.2.2.2.2.1, r1.2)) else (if ixk (7 : Int32) 8 then (if ixk (7 : Int32) 8 then (fnA_doBranch_56 (u.1, (upd u.2.1 (7 : Int32).toNatClampNeg (((u.2.1 (7 : Int32).toNatClampNeg) + ((2 : Int32) * a1.toInt8.toInt32)) &&& (65535 : Int32))), u.2.2.1, u.2.2.2.1, ((u.2.2.2.2.1 + (1 : Int32)) + (1 : Int32)), u.2.2.2.2.2.1, r1.2)) else none) else none))
set_option maxRecDepth 100000 in
set_option maxHeartbeats 4000000 in
theorem ctA_doBranch (l : Launch) (D : va_G) (kI : ClassId) (tb : Nat) (o aw ar ak : Nat) (sz : Nat) (u : sA) (a1 : Int32) (tg : Unit × sA) (ht : fnA_doBranch u a1 = some tg) : Met l yX1_doBranch (Cond.code yX1_doBranch cX1_doBranch 2 none :: wAll) ({ frames := 1, cells := 0, slots := 0, locals := 21 } : Room) (va_Pc [.ref o, .int a1] (prA D kI tb o aw ar ak sz u)) (va_Qv (fun (v : sA) => v = tg.2) (poG D kI (clA o aw ar ak kI) (va_A (clA o aw ar ak kI u) sz)) (va_A (clA o aw ar ak kI u) sz)) 0 0 (va_A (clA o aw ar ak kI u) sz) := by
  refine mOfW (cc := cX1_doBranch) (maxL := 2) (ret := none) (by decide) rfl ?_
  intro p e s m args below meth c s₁ Q R hQ hR B hml hv
  obtain ⟨rfl, hsz, hP, hK, hD0, hZ⟩ := hv
  have hx := B.exec
  have hb := B.bytes
  have hr := B.returns
  have hts := atoms_spec (ws := Cond.code yX1_doBranch cX1_doBranch 2 none :: wAll) B.pre
  have hw : ∀ {w : Cond}, w ∈ wAll → w.before _ s = true := fun {w} h => hts w (List.mem_cons_of_mem _ h)
  have hown : s.vm.findClass RX1 = some m.cls := findClass_of_methodNamed B.named
  have hlocks := B.notSynchronized
  have hRf : 1 ≤ R.frames := by rw [hR]; exact Nat.le_refl _
  have hRl : 21 ≤ R.locals := by rw [hR]; exact Nat.le_refl _
  subst hsz
  have hD := hD0.self (sz := s.heap.size)
  generalize hAe : va_A (clA o aw ar ak kI u) s.heap.size = A at hD hZ hQ
  have hA : ∀ q : Nat, s.heap.size ≤ q → A q := fun q h => by rw [← hAe]; exact Or.inr h
  have hl := lv_entry ([.ref o, .int a1]) (n := 2) (Nat.le_of_ble_eq_true rfl)
  rw [lg_entry_eq]
  generalize (lg_sl ([.ref o, .int a1]) ++ List.replicate (2 - (lg_sl ([.ref o, .int a1])).length) Slot.unset).toArray = ls at hl ⊢
  have hl : lv_has ls 2 [(0, .ref o), (1, .int a1)] := hl
  have hin0 : ∀ w ∈ u_ws RX1 TX1 7, w ∈ (Cond.code yX1_doBranch cX1_doBranch 2 none :: wAll) := fun w h => List.mem_cons_of_mem _ (w_flX1 w h)
  have hn130 : va_Nw (.methodLinkNest RX1 130 yX0_allows "MicroMill") s := hZ.2.2 _ (by decide +kernel)
  have K56 : ∀ (H : Heap) (locs : List Loc) (ls : Array Slot) (u : sA) , va_P D vwCl (clA o aw ar ak kI u) H → va_D A (clA o aw ar ak kI u) → va_S A s.heap H locs → lv_has ls 2 [] → fnA_doBranch_56 u  = some tg → W p l e R s m ([.ref o, .int a1] : List Value).toArray below meth c H locs 0 0 Q (F0 m 56 ls []) := by
    intro H locs ls u  hP hD hS hl ht
    unfold fnA_doBranch_56 at ht
    have e9 := Option.some.inj ht
    subst hQ
    exact W.vret hx hb hr (fun t ht9 hW => ⟨⟨u, rfl, pr2 e9, ⟨by rw [ht9]; exact hP, va_K.moved hW.alike hK, hD⟩⟩, hS.F ht9⟩) hS.2.2 dX1_doBranch_56
  unfold fnA_doBranch at ht
  obtain ⟨H, hHe⟩ : ∃ H : Heap, H = s.heap := ⟨_, rfl⟩
  have hP : va_P D vwCl (clA o aw ar ak kI u) H := by rw [hHe]; exact hP
  have hS : va_S A s.heap H [] := by rw [hHe]; exact va_S.rf
  rw [← hHe]
  refine lv_aload_n hx hb dX1_doBranch_0 rfl (lv_at hl 0 rfl) ?_
  refine lv_dup hx hb dX1_doBranch_1 rfl ?_
  refine va_get (D := D) (ci := 1) (v := .int u.2.2.2.2.1) (C := RX1) (T := TX1) (N := 7) hx hb hts hin0 hown hK hP 0 rfl rfl 5 (by decide) (hw w_f_X1_31) (fun _ h9 => h9) rfl dX1_doBranch_2 ?_
  refine lv_iconst (v := (1 : Int32)) hx hb dX1_doBranch_5 (by decide) ?_
  refine lv_iadd hx hb dX1_doBranch_6 ?_
  refine va_put (D := D) (ci := 1) (v := .int (u.2.2.2.2.1 + (1 : Int32))) (ty := .int) (C := RX1) (T := TX1) (N := 7) hx hb hts hin0 tyX1 tyX1_ok nmX1 hown hK hP hD hS 0 rfl rfl 5 (by decide) (hw w_f_X1_31) (fun _ h9 => h9) rfl (by decide +kernel) rfl rfl (Nat.le_of_ble_eq_true rfl) dX1_doBranch_7 (fun H locs hP hD hS => ?_)
  have hP : va_P D vwCl (clA o aw ar ak kI (u.1, u.2.1, u.2.2.1, u.2.2.2.1, (u.2.2.2.2.1 + (1 : Int32)), u.2.2.2.2.2.1, u.2.2.2.2.2.2)) H := hP
  have hD : va_D A (clA o aw ar ak kI (u.1, u.2.1, u.2.2.1, u.2.2.2.1, (u.2.2.2.2.1 + (1 : Int32)), u.2.2.2.2.2.1, u.2.2.2.2.2.2)) := hD
  refine lv_aload_n hx hb dX1_doBranch_10 rfl (lv_at hl 0 rfl) ?_
  refine va_get (D := D) (ci := 1) (v := .ref ak) (C := RX1) (T := TX1) (N := 7) hx hb hts hin0 hown hK hP 0 rfl rfl 2 (by decide) (hw w_f_X1_19) (fun _ h9 => h9) rfl dX1_doBranch_11 ?_
  refine lv_iload_n hx hb dX1_doBranch_14 rfl (lv_at hl 1 rfl) ?_
  refine lv_bipush (v := (8 : Int32)) hx hb dX1_doBranch_15 (by decide) ?_
  refine lv_ishr hx hb dX1_doBranch_17 ?_
  obtain ⟨r1, h2, ht⟩ := ob_some ht
  refine kW_i (u := (u.1, u.2.1, u.2.2.1, u.2.2.2.1, (u.2.2.2.2.1 + (1 : Int32)), u.2.2.2.2.2.1, u.2.2.2.2.2.2)) (va_runVN (As := [.int (a1 >>> ((8 : Int32) &&& 31))]) (rest := []) ⟨hx, hb, hml, hown, hts⟩ (ctW_allows l D kI ak H.size u.2.2.2.2.2.2 (a1 >>> ((8 : Int32) &&& 31)) r1 h2) ⟨va_cnB 1 hts (gC w_co_yX0_allows) rfl rfl rfl hn130 (hw w_init_MicroMill_Work) (by decide +kernel) ⟨Nat.le_trans (Nat.le_of_ble_eq_true rfl) hRf, Nat.le_trans (Nat.le_of_ble_eq_true rfl) hRl⟩, hw w_im_yX0_allows, hw w_sel_yX0_allows⟩ (preG (cl := clW ak) (u := u.2.2.2.2.2.2) (N := 6) (ci := 0) hK (hP.sub (ws' := clW ak u.2.2.2.2.2.2) [3] rfl) ((hD.sub (ws' := clW ak u.2.2.2.2.2.2) [3] (by decide) rfl).weaken (fun _ _ _ _ => trivial)) rfl rfl _) rfl rfl hl.1 rfl (lv_room (Nat.le_of_ble_eq_true rfl)) dX1_doBranch_18 ⟨Nat.zero_le _, Nat.zero_le _⟩) hP hD hS hA (fun H locs hP hD hS => ?_)
  have hP : va_P D vwCl (clA o aw ar ak kI (u.1, u.2.1, u.2.2.1, u.2.2.2.1, (u.2.2.2.2.1 + (1 : Int32)), u.2.2.2.2.2.1, r1.2)) H := hP
  have hD : va_D A (clA o aw ar ak kI (u.1, u.2.1, u.2.2.1, u.2.2.2.1, (u.2.2.2.2.1 + (1 : Int32)), u.2.2.2.2.2.1, r1.2)) := hD
  refine lv_if_eq (tgt := 56) hx hb dX1_doBranch_21 (by decide) (fun g3 => ?_) (fun g3 => ?_)
  · have ht := (if_pos g3).symm.trans ht
    exact K56 _ _ _ (u.1, u.2.1, u.2.2.1, u.2.2.2.1, (u.2.2.2.2.1 + (1 : Int32)), u.2.2.2.2.2.1, r1.2) hP hD hS (lv_sub hl [] rfl) ht
  · have ht := (if_neg g3).symm.trans ht
    refine lv_aload_n hx hb dX1_doBranch_24 rfl (lv_at hl 0 rfl) ?_
    refine lv_dup hx hb dX1_doBranch_25 rfl ?_
    refine va_get (D := D) (ci := 1) (v := .int (u.2.2.2.2.1 + (1 : Int32))) (C := RX1) (T := TX1) (N := 7) hx hb hts hin0 hown hK hP 0 rfl rfl 5 (by decide) (hw w_f_X1_31) (fun _ h9 => h9) rfl dX1_doBranch_26 ?_
    refine lv_iconst (v := (1 : Int32)) hx hb dX1_doBranch_29 (by decide) ?_
    refine lv_iadd hx hb dX1_doBranch_30 ?_
    refine va_put (D := D) (ci := 1) (v := .int ((u.2.2.2.2.1 + (1 : Int32)) + (1 : Int32))) (ty := .int) (C := RX1) (T := TX1) (N := 7) hx hb hts hin0 tyX1 tyX1_ok nmX1 hown hK hP hD hS 0 rfl rfl 5 (by decide) (hw w_f_X1_31) (fun _ h9 => h9) rfl (by decide +kernel) rfl rfl (Nat.le_of_ble_eq_true rfl) dX1_doBranch_31 (fun H locs hP hD hS => ?_)
    have hP : va_P D vwCl (clA o aw ar ak kI (u.1, u.2.1, u.2.2.1, u.2.2.2.1, ((u.2.2.2.2.1 + (1 : Int32)) + (1 : Int32)), u.2.2.2.2.2.1, r1.2)) H := hP
    have hD : va_D A (clA o aw ar ak kI (u.1, u.2.1, u.2.2.1, u.2.2.2.1, ((u.2.2.2.2.1 + (1 : Int32)) + (1 : Int32)), u.2.2.2.2.2.1, r1.2)) := hD
    refine lv_aload_n hx hb dX1_doBranch_34 rfl (lv_at hl 0 rfl) ?_
    refine va_get (D := D) (ci := 1) (v := .ref ar) (C := RX1) (T := TX1) (N := 7) hx hb hts hin0 hown hK hP 0 rfl rfl 1 (by decide) (hw w_f_X1_13) (fun _ h9 => h9) rfl dX1_doBranch_35 ?_
    refine lv_bipush (v := (7 : Int32)) hx hb dX1_doBranch_38 (by decide) ?_
    refine lv_aload_n hx hb dX1_doBranch_40 rfl (lv_at hl 0 rfl) ?_
    refine va_get (D := D) (ci := 1) (v := .ref ar) (C := RX1) (T := TX1) (N := 7) hx hb hts hin0 hown hK hP 0 rfl rfl 1 (by decide) (hw w_f_X1_13) (fun _ h9 => h9) rfl dX1_doBranch_41 ?_
    refine lv_bipush (v := (7 : Int32)) hx hb dX1_doBranch_44 (by decide) ?_
    obtain ⟨b4, ht⟩ := oi_some ht
    refine va_iald hx hb hK hP 2 0 rfl rfl (ixk_in b4) dX1_doBranch_46 ?_
    refine lv_iconst (v := (2 : Int32)) hx hb dX1_doBranch_47 (by decide) ?_
    refine lv_iload_n hx hb dX1_doBranch_48 rfl (lv_at hl 1 rfl) ?_
    refine lv_i2b hx hb dX1_doBranch_49 rfl ?_
    refine lv_imul hx hb dX1_doBranch_50 ?_
    refine lv_iadd hx hb dX1_doBranch_51 ?_
    refine lv_ldc (v := (65535 : Int32)) hx hb hown (hw w_k_X1_41) dX1_doBranch_52 ?_
    refine lv_iand hx hb dX1_doBranch_54 ?_
    obtain ⟨b5, ht⟩ := oi_some ht
    refine va_iast hx hb hK hP hD hS 2 0 rfl rfl (ixk_in b5) dX1_doBranch_55 (fun H locs hP hD hS => ?_)
    have hP : va_P D vwCl (clA o aw ar ak kI (u.1, (upd u.2.1 (7 : Int32).toNatClampNeg (((u.2.1 (7 : Int32).toNatClampNeg) + ((2 : Int32) * a1.toInt8.toInt32)) &&& (65535 : Int32))), u.2.2.1, u.2.2.2.1, ((u.2.2.2.2.1 + (1 : Int32)) + (1 : Int32)), u.2.2.2.2.2.1, r1.2)) H := hP
    have hD : va_D A (clA o aw ar ak kI (u.1, (upd u.2.1 (7 : Int32).toNatClampNeg (((u.2.1 (7 : Int32).toNatClampNeg) + ((2 : Int32) * a1.toInt8.toInt32)) &&& (65535 : Int32))), u.2.2.1, u.2.2.2.1, ((u.2.2.2.2.1 + (1 : Int32)) + (1 : Int32)), u.2.2.2.2.2.1, r1.2)) := hD
    exact K56 _ _ _ (u.1, (upd u.2.1 (7 : Int32).toNatClampNeg (((u.2.1 (7 : Int32).toNatClampNeg) + ((2 : Int32) * a1.toInt8.toInt32)) &&& (65535 : Int32))), u.2.2.1, u.2.2.2.1, ((u.2.2.2.2.1 + (1 : Int32)) + (1 : Int32)), u.2.2.2.2.2.1, r1.2) hP hD hS (lv_sub hl [] rfl) ht
def fnA_doFlags_20 (u : sA) (y0 : Int32) (y1 : Int32) : Option (Unit × sA) := (fnW_change u.2.2.2.2.2.2 y1 y0).bind (fun r2 => some ((), (u.1, u.2.1, u.2.2.1, u.2.2.2.1, (u.2.2.2.2.1 + (1 : Int32)), u.2.2.2.2.2.1, r2.2)))
def fnA_doFlags (u : sA) (a1 : Int32) : Option (Unit × sA) := if (a1 &&& (16 : Int32)) = 0 then (fnA_doFlags_20 u (0 : Int32) (a1 &&& (15 : Int32))) else (fnA_doFlags_20 u (1 : Int32) (a1 &&& (15 : Int32)))
set_option maxRecDepth 100000 in
set_option maxHeartbeats 4000000 in
theorem ctA_doFlags (l : Launch) (D : va_G) (kI : ClassId) (tb : Nat) (o aw ar ak : Nat) (sz : Nat) (u : sA) (a1 : Int32) (tg : Unit × sA) (ht : fnA_doFlags u a1 = some tg) : Met l yX1_doFlags (Cond.code yX1_doFlags cX1_doFlags 2 none :: wAll) ({ frames := 1, cells := 0, slots := 0, locals := 22 } : Room) (va_Pc [.ref o, .int a1] (prA D kI tb o aw ar ak sz u)) (va_Qv (fun (v : sA) => v = tg.2) (poG D kI (clA o aw ar ak kI) (va_A (clA o aw ar ak kI u) sz)) (va_A (clA o aw ar ak kI u) sz)) 0 0 (va_A (clA o aw ar ak kI u) sz) := by
  refine mOfW (cc := cX1_doFlags) (maxL := 2) (ret := none) (by decide) rfl ?_
  intro p e s m args below meth c s₁ Q R hQ hR B hml hv
  obtain ⟨rfl, hsz, hP, hK, hD0, hZ⟩ := hv
  have hx := B.exec
  have hb := B.bytes
  have hr := B.returns
  have hts := atoms_spec (ws := Cond.code yX1_doFlags cX1_doFlags 2 none :: wAll) B.pre
  have hw : ∀ {w : Cond}, w ∈ wAll → w.before _ s = true := fun {w} h => hts w (List.mem_cons_of_mem _ h)
  have hown : s.vm.findClass RX1 = some m.cls := findClass_of_methodNamed B.named
  have hlocks := B.notSynchronized
  have hRf : 1 ≤ R.frames := by rw [hR]; exact Nat.le_refl _
  have hRl : 22 ≤ R.locals := by rw [hR]; exact Nat.le_refl _
  subst hsz
  have hD := hD0.self (sz := s.heap.size)
  generalize hAe : va_A (clA o aw ar ak kI u) s.heap.size = A at hD hZ hQ
  have hA : ∀ q : Nat, s.heap.size ≤ q → A q := fun q h => by rw [← hAe]; exact Or.inr h
  have hl := lv_entry ([.ref o, .int a1]) (n := 2) (Nat.le_of_ble_eq_true rfl)
  rw [lg_entry_eq]
  generalize (lg_sl ([.ref o, .int a1]) ++ List.replicate (2 - (lg_sl ([.ref o, .int a1])).length) Slot.unset).toArray = ls at hl ⊢
  have hl : lv_has ls 2 [(0, .ref o), (1, .int a1)] := hl
  have hin0 : ∀ w ∈ u_ws RX1 TX1 7, w ∈ (Cond.code yX1_doFlags cX1_doFlags 2 none :: wAll) := fun w h => List.mem_cons_of_mem _ (w_flX1 w h)
  have hn139 : va_Nw (.methodLinkNest RX1 139 yX0_change "MicroMill") s := hZ.2.2 _ (by decide +kernel)
  have K20 : ∀ (H : Heap) (locs : List Loc) (ls : Array Slot) (u : sA) (y0 : Int32) (y1 : Int32) , va_P D vwCl (clA o aw ar ak kI u) H → va_D A (clA o aw ar ak kI u) → va_S A s.heap H locs → lv_has ls 2 [(0, .ref o)] → fnA_doFlags_20 u y0 y1 = some tg → W p l e R s m ([.ref o, .int a1] : List Value).toArray below meth c H locs 0 0 Q (F0 m 20 ls [.int y0, .int y1, .ref ak]) := by
    intro H locs ls u y0 y1 hP hD hS hl ht
    unfold fnA_doFlags_20 at ht
    obtain ⟨r2, h3, ht⟩ := ob_some ht
    refine kW_v (u := u) (va_runVN (As := [.int y1, .int y0]) (rest := []) ⟨hx, hb, hml, hown, hts⟩ (ctW_change l D kI ak H.size u.2.2.2.2.2.2 y1 y0 r2 h3) ⟨va_cnB 2 hts (gC w_co_yX0_change) rfl rfl rfl hn139 (hw w_init_MicroMill_Work) (by decide +kernel) ⟨Nat.le_trans (Nat.le_of_ble_eq_true rfl) hRf, Nat.le_trans (Nat.le_of_ble_eq_true rfl) hRl⟩, hw w_im_yX0_change, hw w_sel_yX0_change⟩ (preG (cl := clW ak) (u := u.2.2.2.2.2.2) (N := 6) (ci := 0) hK (hP.sub (ws' := clW ak u.2.2.2.2.2.2) [3] rfl) ((hD.sub (ws' := clW ak u.2.2.2.2.2.2) [3] (by decide) rfl).weaken (fun _ _ _ _ => trivial)) rfl rfl _) rfl rfl hl.1 rfl (lv_room (Nat.le_of_ble_eq_true rfl)) dX1_doFlags_20 ⟨Nat.zero_le _, Nat.zero_le _⟩) hP hD hS hA (fun H locs hP hD hS => ?_)
    have hP : va_P D vwCl (clA o aw ar ak kI (u.1, u.2.1, u.2.2.1, u.2.2.2.1, u.2.2.2.2.1, u.2.2.2.2.2.1, r2.2)) H := hP
    have hD : va_D A (clA o aw ar ak kI (u.1, u.2.1, u.2.2.1, u.2.2.2.1, u.2.2.2.2.1, u.2.2.2.2.2.1, r2.2)) := hD
    refine lv_aload_n hx hb dX1_doFlags_23 rfl (lv_at hl 0 rfl) ?_
    refine lv_dup hx hb dX1_doFlags_24 rfl ?_
    refine va_get (D := D) (ci := 1) (v := .int u.2.2.2.2.1) (C := RX1) (T := TX1) (N := 7) hx hb hts hin0 hown hK hP 0 rfl rfl 5 (by decide) (hw w_f_X1_31) (fun _ h9 => h9) rfl dX1_doFlags_25 ?_
    refine lv_iconst (v := (1 : Int32)) hx hb dX1_doFlags_28 (by decide) ?_
    refine lv_iadd hx hb dX1_doFlags_29 ?_
    refine va_put (D := D) (ci := 1) (v := .int (u.2.2.2.2.1 + (1 : Int32))) (ty := .int) (C := RX1) (T := TX1) (N := 7) hx hb hts hin0 tyX1 tyX1_ok nmX1 hown hK hP hD hS 0 rfl rfl 5 (by decide) (hw w_f_X1_31) (fun _ h9 => h9) rfl (by decide +kernel) rfl rfl (Nat.le_of_ble_eq_true rfl) dX1_doFlags_30 (fun H locs hP hD hS => ?_)
    have hP : va_P D vwCl (clA o aw ar ak kI (u.1, u.2.1, u.2.2.1, u.2.2.2.1, (u.2.2.2.2.1 + (1 : Int32)), u.2.2.2.2.2.1, r2.2)) H := hP
    have hD : va_D A (clA o aw ar ak kI (u.1, u.2.1, u.2.2.1, u.2.2.2.1, (u.2.2.2.2.1 + (1 : Int32)), u.2.2.2.2.2.1, r2.2)) := hD
    have e9 := Option.some.inj ht
    subst hQ
    exact W.vret hx hb hr (fun t ht9 hW => ⟨⟨(u.1, u.2.1, u.2.2.1, u.2.2.2.1, (u.2.2.2.2.1 + (1 : Int32)), u.2.2.2.2.2.1, r2.2), rfl, pr2 e9, ⟨by rw [ht9]; exact hP, va_K.moved hW.alike hK, hD⟩⟩, hS.F ht9⟩) hS.2.2 dX1_doFlags_33
  unfold fnA_doFlags at ht
  obtain ⟨H, hHe⟩ : ∃ H : Heap, H = s.heap := ⟨_, rfl⟩
  have hP : va_P D vwCl (clA o aw ar ak kI u) H := by rw [hHe]; exact hP
  have hS : va_S A s.heap H [] := by rw [hHe]; exact va_S.rf
  rw [← hHe]
  refine lv_aload_n hx hb dX1_doFlags_0 rfl (lv_at hl 0 rfl) ?_
  refine va_get (D := D) (ci := 1) (v := .ref ak) (C := RX1) (T := TX1) (N := 7) hx hb hts hin0 hown hK hP 0 rfl rfl 2 (by decide) (hw w_f_X1_19) (fun _ h9 => h9) rfl dX1_doFlags_1 ?_
  refine lv_iload_n hx hb dX1_doFlags_4 rfl (lv_at hl 1 rfl) ?_
  refine lv_bipush (v := (15 : Int32)) hx hb dX1_doFlags_5 (by decide) ?_
  refine lv_iand hx hb dX1_doFlags_7 ?_
  refine lv_iload_n hx hb dX1_doFlags_8 rfl (lv_at hl 1 rfl) ?_
  refine lv_bipush (v := (16 : Int32)) hx hb dX1_doFlags_9 (by decide) ?_
  refine lv_iand hx hb dX1_doFlags_11 ?_
  refine lv_if_eq (tgt := 19) hx hb dX1_doFlags_12 (by decide) (fun g1 => ?_) (fun g1 => ?_)
  · have ht := (if_pos g1).symm.trans ht
    refine lv_iconst (v := (0 : Int32)) hx hb dX1_doFlags_19 (by decide) ?_
    exact K20 _ _ _ u (0 : Int32) (a1 &&& (15 : Int32)) hP hD hS (lv_sub hl [0] rfl) ht
  · have ht := (if_neg g1).symm.trans ht
    refine lv_iconst (v := (1 : Int32)) hx hb dX1_doFlags_15 (by decide) ?_
    refine lv_goto (tgt := 20) hx hb dX1_doFlags_16 (by decide) ?_
    exact K20 _ _ _ u (1 : Int32) (a1 &&& (15 : Int32)) hP hD hS (lv_sub hl [0] rfl) ht
def fnA_readWord (u : sA) (a1 : Int32) : Option (Int32 × sA) := if (a1 &&& (1 : Int32)) = 0 then (if a1 < (4096 : Int32) then (if ixk (a1 >>> ((1 : Int32) &&& 31)) 2048 then (some ((u.1 (a1 >>> ((1 : Int32) &&& 31)).toNatClampNeg), u)) else none) else (some ((-1 : Int32), (u.1, u.2.1, (4 : Int32), u.2.2.2.1, u.2.2.2.2.1, u.2.2.2.2.2.1, u.2.2.2.2.2.2)))) else (some ((-1 : Int32), (u.1, u.2.1, (3 : Int32), u.2.2.2.1, u.2.2.2.2.1, u.2.2.2.2.2.1, u.2.2.2.2.2.2)))
set_option maxRecDepth 100000 in
set_option maxHeartbeats 4000000 in
theorem ctA_readWord (l : Launch) (D : va_G) (kI : ClassId) (tb : Nat) (o aw ar ak : Nat) (sz : Nat) (u : sA) (a1 : Int32) (tg : Int32 × sA) (ht : fnA_readWord u a1 = some tg) : Met l yX1_readWord (Cond.code yX1_readWord cX1_readWord 2 (some .int) :: wAll) ({ frames := 0, cells := 0, slots := 0, locals := 0 } : Room) (va_Pc [.ref o, .int a1] (prA D kI tb o aw ar ak sz u)) (va_Qi (fun (x : Int32) (v : sA) => x = tg.1 ∧ v = tg.2) (poG D kI (clA o aw ar ak kI) (va_A (clA o aw ar ak kI u) sz)) (va_A (clA o aw ar ak kI u) sz)) 0 0 (va_A (clA o aw ar ak kI u) sz) := by
  refine mOfW (cc := cX1_readWord) (maxL := 2) (ret := (some .int)) (by decide) rfl ?_
  intro p e s m args below meth c s₁ Q R hQ hR B hml hv
  obtain ⟨rfl, hsz, hP, hK, hD0, hZ⟩ := hv
  have hx := B.exec
  have hb := B.bytes
  have hr := B.returns
  have hts := atoms_spec (ws := Cond.code yX1_readWord cX1_readWord 2 (some .int) :: wAll) B.pre
  have hw : ∀ {w : Cond}, w ∈ wAll → w.before _ s = true := fun {w} h => hts w (List.mem_cons_of_mem _ h)
  have hown : s.vm.findClass RX1 = some m.cls := findClass_of_methodNamed B.named
  have hlocks := B.notSynchronized
  have hRf : 0 ≤ R.frames := by rw [hR]; exact Nat.le_refl _
  have hRl : 0 ≤ R.locals := by rw [hR]; exact Nat.le_refl _
  subst hsz
  have hD := hD0.self (sz := s.heap.size)
  generalize hAe : va_A (clA o aw ar ak kI u) s.heap.size = A at hD hZ hQ
  have hA : ∀ q : Nat, s.heap.size ≤ q → A q := fun q h => by rw [← hAe]; exact Or.inr h
  have hl := lv_entry ([.ref o, .int a1]) (n := 2) (Nat.le_of_ble_eq_true rfl)
  rw [lg_entry_eq]
  generalize (lg_sl ([.ref o, .int a1]) ++ List.replicate (2 - (lg_sl ([.ref o, .int a1])).length) Slot.unset).toArray = ls at hl ⊢
  have hl : lv_has ls 2 [(0, .ref o), (1, .int a1)] := hl
  have hin0 : ∀ w ∈ u_ws RX1 TX1 7, w ∈ (Cond.code yX1_readWord cX1_readWord 2 (some .int) :: wAll) := fun w h => List.mem_cons_of_mem _ (w_flX1 w h)
  unfold fnA_readWord at ht
  obtain ⟨H, hHe⟩ : ∃ H : Heap, H = s.heap := ⟨_, rfl⟩
  have hP : va_P D vwCl (clA o aw ar ak kI u) H := by rw [hHe]; exact hP
  have hS : va_S A s.heap H [] := by rw [hHe]; exact va_S.rf
  rw [← hHe]
  refine lv_iload_n hx hb dX1_readWord_0 rfl (lv_at hl 1 rfl) ?_
  refine lv_iconst (v := (1 : Int32)) hx hb dX1_readWord_1 (by decide) ?_
  refine lv_iand hx hb dX1_readWord_2 ?_
  refine lv_if_eq (tgt := 13) hx hb dX1_readWord_3 (by decide) (fun g1 => ?_) (fun g1 => ?_)
  · have ht := (if_pos g1).symm.trans ht
    refine lv_iload_n hx hb dX1_readWord_13 rfl (lv_at hl 1 rfl) ?_
    refine lv_sipush (v := (4096 : Int32)) hx hb dX1_readWord_14 (by decide) ?_
    refine lv_icmp_lt (tgt := 27) hx hb dX1_readWord_17 (by decide) (fun g2 => ?_) (fun g2 => ?_)
    · have ht := (if_pos g2).symm.trans ht
      refine lv_aload_n hx hb dX1_readWord_27 rfl (lv_at hl 0 rfl) ?_
      refine va_get (D := D) (ci := 1) (v := .ref aw) (C := RX1) (T := TX1) (N := 7) hx hb hts hin0 hown hK hP 0 rfl rfl 0 (by decide) (hw w_f_X1_9) (fun _ h9 => h9) rfl dX1_readWord_28 ?_
      refine lv_iload_n hx hb dX1_readWord_31 rfl (lv_at hl 1 rfl) ?_
      refine lv_iconst (v := (1 : Int32)) hx hb dX1_readWord_32 (by decide) ?_
      refine lv_ishr hx hb dX1_readWord_33 ?_
      obtain ⟨b3, ht⟩ := oi_some ht
      refine va_iald hx hb hK hP 1 0 rfl rfl (ixk_in b3) dX1_readWord_34 ?_
      have e9 := Option.some.inj ht
      subst hQ
      exact W.iret (v := (u.1 (a1 >>> ((1 : Int32) &&& 31)).toNatClampNeg)) hx hb hr (fun t ht9 hW => ⟨⟨(u.1 (a1 >>> ((1 : Int32) &&& 31)).toNatClampNeg), u, rfl, ⟨pr1 e9, pr2 e9⟩, ⟨by rw [ht9]; exact hP, va_K.moved hW.alike hK, hD⟩⟩, hS.F ht9⟩) hS.2.2 dX1_readWord_35
    · have ht := (if_neg g2).symm.trans ht
      refine lv_aload_n hx hb dX1_readWord_20 rfl (lv_at hl 0 rfl) ?_
      refine lv_iconst (v := (4 : Int32)) hx hb dX1_readWord_21 (by decide) ?_
      refine va_put (D := D) (ci := 1) (v := .int (4 : Int32)) (ty := .int) (C := RX1) (T := TX1) (N := 7) hx hb hts hin0 tyX1 tyX1_ok nmX1 hown hK hP hD hS 0 rfl rfl 3 (by decide) (hw w_f_X1_23) (fun _ h9 => h9) rfl (by decide +kernel) rfl rfl (Nat.le_of_ble_eq_true rfl) dX1_readWord_22 (fun H locs hP hD hS => ?_)
      have hP : va_P D vwCl (clA o aw ar ak kI (u.1, u.2.1, (4 : Int32), u.2.2.2.1, u.2.2.2.2.1, u.2.2.2.2.2.1, u.2.2.2.2.2.2)) H := hP
      have hD : va_D A (clA o aw ar ak kI (u.1, u.2.1, (4 : Int32), u.2.2.2.1, u.2.2.2.2.1, u.2.2.2.2.2.1, u.2.2.2.2.2.2)) := hD
      refine lv_iconst (v := (-1 : Int32)) hx hb dX1_readWord_25 (by decide) ?_
      have e9 := Option.some.inj ht
      subst hQ
      exact W.iret (v := (-1 : Int32)) hx hb hr (fun t ht9 hW => ⟨⟨(-1 : Int32), (u.1, u.2.1, (4 : Int32), u.2.2.2.1, u.2.2.2.2.1, u.2.2.2.2.2.1, u.2.2.2.2.2.2), rfl, ⟨pr1 e9, pr2 e9⟩, ⟨by rw [ht9]; exact hP, va_K.moved hW.alike hK, hD⟩⟩, hS.F ht9⟩) hS.2.2 dX1_readWord_26
  · have ht := (if_neg g1).symm.trans ht
    refine lv_aload_n hx hb dX1_readWord_6 rfl (lv_at hl 0 rfl) ?_
    refine lv_iconst (v := (3 : Int32)) hx hb dX1_readWord_7 (by decide) ?_
    refine va_put (D := D) (ci := 1) (v := .int (3 : Int32)) (ty := .int) (C := RX1) (T := TX1) (N := 7) hx hb hts hin0 tyX1 tyX1_ok nmX1 hown hK hP hD hS 0 rfl rfl 3 (by decide) (hw w_f_X1_23) (fun _ h9 => h9) rfl (by decide +kernel) rfl rfl (Nat.le_of_ble_eq_true rfl) dX1_readWord_8 (fun H locs hP hD hS => ?_)
    have hP : va_P D vwCl (clA o aw ar ak kI (u.1, u.2.1, (3 : Int32), u.2.2.2.1, u.2.2.2.2.1, u.2.2.2.2.2.1, u.2.2.2.2.2.2)) H := hP
    have hD : va_D A (clA o aw ar ak kI (u.1, u.2.1, (3 : Int32), u.2.2.2.1, u.2.2.2.2.1, u.2.2.2.2.2.1, u.2.2.2.2.2.2)) := hD
    refine lv_iconst (v := (-1 : Int32)) hx hb dX1_readWord_11 (by decide) ?_
    have e9 := Option.some.inj ht
    subst hQ
    exact W.iret (v := (-1 : Int32)) hx hb hr (fun t ht9 hW => ⟨⟨(-1 : Int32), (u.1, u.2.1, (3 : Int32), u.2.2.2.1, u.2.2.2.2.1, u.2.2.2.2.2.1, u.2.2.2.2.2.2), rfl, ⟨pr1 e9, pr2 e9⟩, ⟨by rw [ht9]; exact hP, va_K.moved hW.alike hK, hD⟩⟩, hS.F ht9⟩) hS.2.2 dX1_readWord_12
def fnA_stepDown (u : sA) (a1 : Int32) (a2 : Int32) : Option (Int32 × sA) := if ixk a1 8 then (if ixk a1 8 then (if ixk a1 8 then (some (((upd u.2.1 a1.toNatClampNeg (((u.2.1 a1.toNatClampNeg) - a2) &&& (65535 : Int32))) a1.toNatClampNeg), (u.1, (upd u.2.1 a1.toNatClampNeg (((u.2.1 a1.toNatClampNeg) - a2) &&& (65535 : Int32))), u.2.2.1, u.2.2.2.1, u.2.2.2.2.1, u.2.2.2.2.2.1, u.2.2.2.2.2.2))) else none) else none) else none
set_option maxRecDepth 100000 in
set_option maxHeartbeats 4000000 in
theorem ctA_stepDown (l : Launch) (D : va_G) (kI : ClassId) (tb : Nat) (o aw ar ak : Nat) (sz : Nat) (u : sA) (a1 : Int32) (a2 : Int32) (tg : Int32 × sA) (ht : fnA_stepDown u a1 a2 = some tg) : Met l yX1_stepDown (Cond.code yX1_stepDown cX1_stepDown 3 (some .int) :: wAll) ({ frames := 0, cells := 0, slots := 0, locals := 0 } : Room) (va_Pc [.ref o, .int a1, .int a2] (prA D kI tb o aw ar ak sz u)) (va_Qi (fun (x : Int32) (v : sA) => x = tg.1 ∧ v = tg.2) (poG D kI (clA o aw ar ak kI) (va_A (clA o aw ar ak kI u) sz)) (va_A (clA o aw ar ak kI u) sz)) 0 0 (va_A (clA o aw ar ak kI u) sz) := by
  refine mOfW (cc := cX1_stepDown) (maxL := 3) (ret := (some .int)) (by decide) rfl ?_
  intro p e s m args below meth c s₁ Q R hQ hR B hml hv
  obtain ⟨rfl, hsz, hP, hK, hD0, hZ⟩ := hv
  have hx := B.exec
  have hb := B.bytes
  have hr := B.returns
  have hts := atoms_spec (ws := Cond.code yX1_stepDown cX1_stepDown 3 (some .int) :: wAll) B.pre
  have hw : ∀ {w : Cond}, w ∈ wAll → w.before _ s = true := fun {w} h => hts w (List.mem_cons_of_mem _ h)
  have hown : s.vm.findClass RX1 = some m.cls := findClass_of_methodNamed B.named
  have hlocks := B.notSynchronized
  have hRf : 0 ≤ R.frames := by rw [hR]; exact Nat.le_refl _
  have hRl : 0 ≤ R.locals := by rw [hR]; exact Nat.le_refl _
  subst hsz
  have hD := hD0.self (sz := s.heap.size)
  generalize hAe : va_A (clA o aw ar ak kI u) s.heap.size = A at hD hZ hQ
  have hA : ∀ q : Nat, s.heap.size ≤ q → A q := fun q h => by rw [← hAe]; exact Or.inr h
  have hl := lv_entry ([.ref o, .int a1, .int a2]) (n := 3) (Nat.le_of_ble_eq_true rfl)
  rw [lg_entry_eq]
  generalize (lg_sl ([.ref o, .int a1, .int a2]) ++ List.replicate (3 - (lg_sl ([.ref o, .int a1, .int a2])).length) Slot.unset).toArray = ls at hl ⊢
  have hl : lv_has ls 3 [(0, .ref o), (1, .int a1), (2, .int a2)] := hl
  have hin0 : ∀ w ∈ u_ws RX1 TX1 7, w ∈ (Cond.code yX1_stepDown cX1_stepDown 3 (some .int) :: wAll) := fun w h => List.mem_cons_of_mem _ (w_flX1 w h)
  unfold fnA_stepDown at ht
  obtain ⟨H, hHe⟩ : ∃ H : Heap, H = s.heap := ⟨_, rfl⟩
  have hP : va_P D vwCl (clA o aw ar ak kI u) H := by rw [hHe]; exact hP
  have hS : va_S A s.heap H [] := by rw [hHe]; exact va_S.rf
  rw [← hHe]
  refine lv_aload_n hx hb dX1_stepDown_0 rfl (lv_at hl 0 rfl) ?_
  refine va_get (D := D) (ci := 1) (v := .ref ar) (C := RX1) (T := TX1) (N := 7) hx hb hts hin0 hown hK hP 0 rfl rfl 1 (by decide) (hw w_f_X1_13) (fun _ h9 => h9) rfl dX1_stepDown_1 ?_
  refine lv_iload_n hx hb dX1_stepDown_4 rfl (lv_at hl 1 rfl) ?_
  refine lv_aload_n hx hb dX1_stepDown_5 rfl (lv_at hl 0 rfl) ?_
  refine va_get (D := D) (ci := 1) (v := .ref ar) (C := RX1) (T := TX1) (N := 7) hx hb hts hin0 hown hK hP 0 rfl rfl 1 (by decide) (hw w_f_X1_13) (fun _ h9 => h9) rfl dX1_stepDown_6 ?_
  refine lv_iload_n hx hb dX1_stepDown_9 rfl (lv_at hl 1 rfl) ?_
  obtain ⟨b1, ht⟩ := oi_some ht
  refine va_iald hx hb hK hP 2 0 rfl rfl (ixk_in b1) dX1_stepDown_10 ?_
  refine lv_iload_n hx hb dX1_stepDown_11 rfl (lv_at hl 2 rfl) ?_
  refine lv_isub hx hb dX1_stepDown_12 ?_
  refine lv_ldc (v := (65535 : Int32)) hx hb hown (hw w_k_X1_41) dX1_stepDown_13 ?_
  refine lv_iand hx hb dX1_stepDown_15 ?_
  obtain ⟨b2, ht⟩ := oi_some ht
  refine va_iast hx hb hK hP hD hS 2 0 rfl rfl (ixk_in b2) dX1_stepDown_16 (fun H locs hP hD hS => ?_)
  have hP : va_P D vwCl (clA o aw ar ak kI (u.1, (upd u.2.1 a1.toNatClampNeg (((u.2.1 a1.toNatClampNeg) - a2) &&& (65535 : Int32))), u.2.2.1, u.2.2.2.1, u.2.2.2.2.1, u.2.2.2.2.2.1, u.2.2.2.2.2.2)) H := hP
  have hD : va_D A (clA o aw ar ak kI (u.1, (upd u.2.1 a1.toNatClampNeg (((u.2.1 a1.toNatClampNeg) - a2) &&& (65535 : Int32))), u.2.2.1, u.2.2.2.1, u.2.2.2.2.1, u.2.2.2.2.2.1, u.2.2.2.2.2.2)) := hD
  refine lv_aload_n hx hb dX1_stepDown_17 rfl (lv_at hl 0 rfl) ?_
  refine va_get (D := D) (ci := 1) (v := .ref ar) (C := RX1) (T := TX1) (N := 7) hx hb hts hin0 hown hK hP 0 rfl rfl 1 (by decide) (hw w_f_X1_13) (fun _ h9 => h9) rfl dX1_stepDown_18 ?_
  refine lv_iload_n hx hb dX1_stepDown_21 rfl (lv_at hl 1 rfl) ?_
  obtain ⟨b3, ht⟩ := oi_some ht
  refine va_iald hx hb hK hP 2 0 rfl rfl (ixk_in b3) dX1_stepDown_22 ?_
  have e9 := Option.some.inj ht
  subst hQ
  exact W.iret (v := ((upd u.2.1 a1.toNatClampNeg (((u.2.1 a1.toNatClampNeg) - a2) &&& (65535 : Int32))) a1.toNatClampNeg)) hx hb hr (fun t ht9 hW => ⟨⟨((upd u.2.1 a1.toNatClampNeg (((u.2.1 a1.toNatClampNeg) - a2) &&& (65535 : Int32))) a1.toNatClampNeg), (u.1, (upd u.2.1 a1.toNatClampNeg (((u.2.1 a1.toNatClampNeg) - a2) &&& (65535 : Int32))), u.2.2.1, u.2.2.2.1, u.2.2.2.2.1, u.2.2.2.2.2.1, u.2.2.2.2.2.2), rfl, ⟨pr1 e9, pr2 e9⟩, ⟨by rw [ht9]; exact hP, va_K.moved hW.alike hK, hD⟩⟩, hS.F ht9⟩) hS.2.2 dX1_stepDown_23
def fnA_stepUp (u : sA) (a1 : Int32) (a2 : Int32) : Option (Int32 × sA) := if ixk a1 8 then (if ixk a1 8 then (some ((u.2.1 a1.toNatClampNeg), (u.1, (upd u.2.1 a1.toNatClampNeg (((u.2.1 a1.toNatClampNeg) + a2) &&& (65535 : Int32))), u.2.2.1, u.2.2.2.1, u.2.2.2.2.1, u.2.2.2.2.2.1, u.2.2.2.2.2.2))) else none) else none
set_option maxRecDepth 100000 in
set_option maxHeartbeats 4000000 in
theorem ctA_stepUp (l : Launch) (D : va_G) (kI : ClassId) (tb : Nat) (o aw ar ak : Nat) (sz : Nat) (u : sA) (a1 : Int32) (a2 : Int32) (tg : Int32 × sA) (ht : fnA_stepUp u a1 a2 = some tg) : Met l yX1_stepUp (Cond.code yX1_stepUp cX1_stepUp 4 (some .int) :: wAll) ({ frames := 0, cells := 0, slots := 0, locals := 0 } : Room) (va_Pc [.ref o, .int a1, .int a2] (prA D kI tb o aw ar ak sz u)) (va_Qi (fun (x : Int32) (v : sA) => x = tg.1 ∧ v = tg.2) (poG D kI (clA o aw ar ak kI) (va_A (clA o aw ar ak kI u) sz)) (va_A (clA o aw ar ak kI u) sz)) 0 0 (va_A (clA o aw ar ak kI u) sz) := by
  refine mOfW (cc := cX1_stepUp) (maxL := 4) (ret := (some .int)) (by decide) rfl ?_
  intro p e s m args below meth c s₁ Q R hQ hR B hml hv
  obtain ⟨rfl, hsz, hP, hK, hD0, hZ⟩ := hv
  have hx := B.exec
  have hb := B.bytes
  have hr := B.returns
  have hts := atoms_spec (ws := Cond.code yX1_stepUp cX1_stepUp 4 (some .int) :: wAll) B.pre
  have hw : ∀ {w : Cond}, w ∈ wAll → w.before _ s = true := fun {w} h => hts w (List.mem_cons_of_mem _ h)
  have hown : s.vm.findClass RX1 = some m.cls := findClass_of_methodNamed B.named
  have hlocks := B.notSynchronized
  have hRf : 0 ≤ R.frames := by rw [hR]; exact Nat.le_refl _
  have hRl : 0 ≤ R.locals := by rw [hR]; exact Nat.le_refl _
  subst hsz
  have hD := hD0.self (sz := s.heap.size)
  generalize hAe : va_A (clA o aw ar ak kI u) s.heap.size = A at hD hZ hQ
  have hA : ∀ q : Nat, s.heap.size ≤ q → A q := fun q h => by rw [← hAe]; exact Or.inr h
  have hl := lv_entry ([.ref o, .int a1, .int a2]) (n := 4) (Nat.le_of_ble_eq_true rfl)
  rw [lg_entry_eq]
  generalize (lg_sl ([.ref o, .int a1, .int a2]) ++ List.replicate (4 - (lg_sl ([.ref o, .int a1, .int a2])).length) Slot.unset).toArray = ls at hl ⊢
  have hl : lv_has ls 4 [(0, .ref o), (1, .int a1), (2, .int a2)] := hl
  have hin0 : ∀ w ∈ u_ws RX1 TX1 7, w ∈ (Cond.code yX1_stepUp cX1_stepUp 4 (some .int) :: wAll) := fun w h => List.mem_cons_of_mem _ (w_flX1 w h)
  unfold fnA_stepUp at ht
  obtain ⟨H, hHe⟩ : ∃ H : Heap, H = s.heap := ⟨_, rfl⟩
  have hP : va_P D vwCl (clA o aw ar ak kI u) H := by rw [hHe]; exact hP
  have hS : va_S A s.heap H [] := by rw [hHe]; exact va_S.rf
  rw [← hHe]
  refine lv_aload_n hx hb dX1_stepUp_0 rfl (lv_at hl 0 rfl) ?_
  refine va_get (D := D) (ci := 1) (v := .ref ar) (C := RX1) (T := TX1) (N := 7) hx hb hts hin0 hown hK hP 0 rfl rfl 1 (by decide) (hw w_f_X1_13) (fun _ h9 => h9) rfl dX1_stepUp_1 ?_
  refine lv_iload_n hx hb dX1_stepUp_4 rfl (lv_at hl 1 rfl) ?_
  obtain ⟨b1, ht⟩ := oi_some ht
  refine va_iald hx hb hK hP 2 0 rfl rfl (ixk_in b1) dX1_stepUp_5 ?_
  refine lv_istore_n (lv' := [(3, .int (u.2.1 a1.toNatClampNeg)), (0, .ref o), (1, .int a1), (2, .int a2)]) hx hb dX1_stepUp_6 rfl hl (by decide) rfl (fun ls hl => ?_)
  refine lv_aload_n hx hb dX1_stepUp_7 rfl (lv_at hl 1 rfl) ?_
  refine va_get (D := D) (ci := 1) (v := .ref ar) (C := RX1) (T := TX1) (N := 7) hx hb hts hin0 hown hK hP 0 rfl rfl 1 (by decide) (hw w_f_X1_13) (fun _ h9 => h9) rfl dX1_stepUp_8 ?_
  refine lv_iload_n hx hb dX1_stepUp_11 rfl (lv_at hl 2 rfl) ?_
  refine lv_iload_n hx hb dX1_stepUp_12 rfl (lv_at hl 0 rfl) ?_
  refine lv_iload_n hx hb dX1_stepUp_13 rfl (lv_at hl 3 rfl) ?_
  refine lv_iadd hx hb dX1_stepUp_14 ?_
  refine lv_ldc (v := (65535 : Int32)) hx hb hown (hw w_k_X1_41) dX1_stepUp_15 ?_
  refine lv_iand hx hb dX1_stepUp_17 ?_
  obtain ⟨b2, ht⟩ := oi_some ht
  refine va_iast hx hb hK hP hD hS 2 0 rfl rfl (ixk_in b2) dX1_stepUp_18 (fun H locs hP hD hS => ?_)
  have hP : va_P D vwCl (clA o aw ar ak kI (u.1, (upd u.2.1 a1.toNatClampNeg (((u.2.1 a1.toNatClampNeg) + a2) &&& (65535 : Int32))), u.2.2.1, u.2.2.2.1, u.2.2.2.2.1, u.2.2.2.2.2.1, u.2.2.2.2.2.2)) H := hP
  have hD : va_D A (clA o aw ar ak kI (u.1, (upd u.2.1 a1.toNatClampNeg (((u.2.1 a1.toNatClampNeg) + a2) &&& (65535 : Int32))), u.2.2.1, u.2.2.2.1, u.2.2.2.2.1, u.2.2.2.2.2.1, u.2.2.2.2.2.2)) := hD
  refine lv_iload_n hx hb dX1_stepUp_19 rfl (lv_at hl 0 rfl) ?_
  have e9 := Option.some.inj ht
  subst hQ
  exact W.iret (v := (u.2.1 a1.toNatClampNeg)) hx hb hr (fun t ht9 hW => ⟨⟨(u.2.1 a1.toNatClampNeg), (u.1, (upd u.2.1 a1.toNatClampNeg (((u.2.1 a1.toNatClampNeg) + a2) &&& (65535 : Int32))), u.2.2.1, u.2.2.2.1, u.2.2.2.2.1, u.2.2.2.2.2.1, u.2.2.2.2.2.2), rfl, ⟨pr1 e9, pr2 e9⟩, ⟨by rw [ht9]; exact hP, va_K.moved hW.alike hK, hD⟩⟩, hS.F ht9⟩) hS.2.2 dX1_stepUp_20
def fnA_findAddress_131 (u : sA) (y0 : Int32) : Option (Int32 × sA) := some (y0, u)
def fnA_findAddress (u : sA) (a1 : Int32) (a2 : Int32) (a3 : Int32) : Option (Int32 × sA) := if a1 = (1 : Int32) then (if ixk a2 8 then (some ((u.2.1 a2.toNatClampNeg), u)) else none) else (if a1 = (2 : Int32) then ((fnA_stepUp u a2 a3).bind (fun r4 => some (r4.1, r4.2))) else (if a1 = (3 : Int32) then ((fnA_stepUp u a2 (2 : Int32)).bind (fun r7 => (fnA_readWord r7.2 r7.1).bind (fun r9 => some (r9.1, r9.2)))) else (if a1 = (4 : Int32) then ((fnA_stepDown u a2 a3).bind (fun r12 => some (r12.1, r12.2))) else (if a1 = (5 : Int32) then ((fnA_stepDown u a2 (2 : Int32)).bind (fun r15 => (fnA_readWord r15.2 r15.1).bind (fun r17 => some (r17.1, r17.2)))) else ((fnA_stepUp u (7 : Int32) (2 : Int32)).bind (fun r19 => (fnA_readWord r19.2 r19.1).bind (fun r21 => if r21.1 = (-1 : Int32) then (some ((-1 : Int32), r21.2)) else (if ixk a2 8 then (if a1 = (6 : Int32) then (fnA_findAddress_131 r21.2 ((r21.1 + (r21.2.2.1 a2.toNatClampNeg)) &&& (65535 : Int32))) else ((fnA_readWord r21.2 ((r21.1 + (r21.2.2.1 a2.toNatClampNeg)) &&& (65535 : Int32))).bind (fun r26 => fnA_findAddress_131 r26.2 r26.1))) else none))))))))
set_option maxRecDepth 100000 in
set_option maxHeartbeats 4000000 in
theorem ctA_findAddress (l : Launch) (D : va_G) (kI : ClassId) (tb : Nat) (o aw ar ak : Nat) (sz : Nat) (u : sA) (a1 : Int32) (a2 : Int32) (a3 : Int32) (tg : Int32 × sA) (ht : fnA_findAddress u a1 a2 a3 = some tg) : Met l yX1_findAddress (Cond.code yX1_findAddress cX1_findAddress 6 (some .int) :: wAll) ({ frames := 1, cells := 0, slots := 0, locals := 23 } : Room) (va_Pc [.ref o, .int a1, .int a2, .int a3] (prA D kI tb o aw ar ak sz u)) (va_Qi (fun (x : Int32) (v : sA) => x = tg.1 ∧ v = tg.2) (poG D kI (clA o aw ar ak kI) (va_A (clA o aw ar ak kI u) sz)) (va_A (clA o aw ar ak kI u) sz)) 0 0 (va_A (clA o aw ar ak kI u) sz) := by
  refine mOfW (cc := cX1_findAddress) (maxL := 6) (ret := (some .int)) (by decide) rfl ?_
  intro p e s m args below meth c s₁ Q R hQ hR B hml hv
  obtain ⟨rfl, hsz, hP, hK, hD0, hZ⟩ := hv
  have hx := B.exec
  have hb := B.bytes
  have hr := B.returns
  have hts := atoms_spec (ws := Cond.code yX1_findAddress cX1_findAddress 6 (some .int) :: wAll) B.pre
  have hw : ∀ {w : Cond}, w ∈ wAll → w.before _ s = true := fun {w} h => hts w (List.mem_cons_of_mem _ h)
  have hown : s.vm.findClass RX1 = some m.cls := findClass_of_methodNamed B.named
  have hlocks := B.notSynchronized
  have hRf : 1 ≤ R.frames := by rw [hR]; exact Nat.le_refl _
  have hRl : 23 ≤ R.locals := by rw [hR]; exact Nat.le_refl _
  subst hsz
  have hD := hD0.self (sz := s.heap.size)
  generalize hAe : va_A (clA o aw ar ak kI u) s.heap.size = A at hD hZ hQ
  have hA : ∀ q : Nat, s.heap.size ≤ q → A q := fun q h => by rw [← hAe]; exact Or.inr h
  have hl := lv_entry ([.ref o, .int a1, .int a2, .int a3]) (n := 6) (Nat.le_of_ble_eq_true rfl)
  rw [lg_entry_eq]
  generalize (lg_sl ([.ref o, .int a1, .int a2, .int a3]) ++ List.replicate (6 - (lg_sl ([.ref o, .int a1, .int a2, .int a3])).length) Slot.unset).toArray = ls at hl ⊢
  have hl : lv_has ls 6 [(0, .ref o), (1, .int a1), (2, .int a2), (3, .int a3)] := hl
  have hin0 : ∀ w ∈ u_ws RX1 TX1 7, w ∈ (Cond.code yX1_findAddress cX1_findAddress 6 (some .int) :: wAll) := fun w h => List.mem_cons_of_mem _ (w_flX1 w h)
  have K131 : ∀ (H : Heap) (locs : List Loc) (ls : Array Slot) (u : sA) (y0 : Int32) , va_P D vwCl (clA o aw ar ak kI u) H → va_D A (clA o aw ar ak kI u) → va_S A s.heap H locs → lv_has ls 6 [] → fnA_findAddress_131 u y0 = some tg → W p l e R s m ([.ref o, .int a1, .int a2, .int a3] : List Value).toArray below meth c H locs 0 0 Q (F0 m 131 ls [.int y0]) := by
    intro H locs ls u y0 hP hD hS hl ht
    unfold fnA_findAddress_131 at ht
    have e9 := Option.some.inj ht
    subst hQ
    exact W.iret (v := y0) hx hb hr (fun t ht9 hW => ⟨⟨y0, u, rfl, ⟨pr1 e9, pr2 e9⟩, ⟨by rw [ht9]; exact hP, va_K.moved hW.alike hK, hD⟩⟩, hS.F ht9⟩) hS.2.2 dX1_findAddress_131
  unfold fnA_findAddress at ht
  obtain ⟨H, hHe⟩ : ∃ H : Heap, H = s.heap := ⟨_, rfl⟩
  have hP : va_P D vwCl (clA o aw ar ak kI u) H := by rw [hHe]; exact hP
  have hS : va_S A s.heap H [] := by rw [hHe]; exact va_S.rf
  rw [← hHe]
  refine lv_iload_n hx hb dX1_findAddress_0 rfl (lv_at hl 1 rfl) ?_
  by_cases g1 : a1 = (1 : Int32)
  · have ht := (if_pos g1).symm.trans ht
    refine lv_tableIn (off := 35) (tgt := 36) hx hb dX1_findAddress_1 (by rw [g1]; decide) (by rw [g1]; decide) (by rw [g1]; rfl) (by decide) ?_
    refine lv_aload_n hx hb dX1_findAddress_36 rfl (lv_at hl 0 rfl) ?_
    refine va_get (D := D) (ci := 1) (v := .ref ar) (C := RX1) (T := TX1) (N := 7) hx hb hts hin0 hown hK hP 0 rfl rfl 1 (by decide) (hw w_f_X1_13) (fun _ h9 => h9) rfl dX1_findAddress_37 ?_
    refine lv_iload_n hx hb dX1_findAddress_40 rfl (lv_at hl 2 rfl) ?_
    obtain ⟨b2, ht⟩ := oi_some ht
    refine va_iald hx hb hK hP 2 0 rfl rfl (ixk_in b2) dX1_findAddress_41 ?_
    have e9 := Option.some.inj ht
    subst hQ
    exact W.iret (v := (u.2.1 a2.toNatClampNeg)) hx hb hr (fun t ht9 hW => ⟨⟨(u.2.1 a2.toNatClampNeg), u, rfl, ⟨pr1 e9, pr2 e9⟩, ⟨by rw [ht9]; exact hP, va_K.moved hW.alike hK, hD⟩⟩, hS.F ht9⟩) hS.2.2 dX1_findAddress_42
  · have ht := (if_neg g1).symm.trans ht
    by_cases g3 : a1 = (2 : Int32)
    · have ht := (if_pos g3).symm.trans ht
      refine lv_tableIn (off := 42) (tgt := 43) hx hb dX1_findAddress_1 (by rw [g3]; decide) (by rw [g3]; decide) (by rw [g3]; rfl) (by decide) ?_
      refine lv_aload_n hx hb dX1_findAddress_43 rfl (lv_at hl 0 rfl) ?_
      refine lv_iload_n hx hb dX1_findAddress_44 rfl (lv_at hl 2 rfl) ?_
      refine lv_iload_n hx hb dX1_findAddress_45 rfl (lv_at hl 3 rfl) ?_
      obtain ⟨r4, h5, ht⟩ := ob_some ht
      refine kG_i (cl := clA o aw ar ak kI) (u := u) (va_runV (As := [.int a2, .int a3]) (rest := []) ⟨hx, hb, hml, hown, hts⟩ (ctA_stepUp l D kI tb o aw ar ak H.size u a2 a3 r4 h5) (cwV 2 hts (gV w_m_X1_58 w_im_yX1_stepUp w_sel_yX1_stepUp w_init_MicroMill w_co_yX1_stepUp) rfl rfl rfl (by decide +kernel) ⟨Nat.le_trans (Nat.le_of_ble_eq_true rfl) hRf, Nat.le_trans (Nat.le_of_ble_eq_true rfl) hRl⟩) (preA hK hP hD hS hA hZ _) rfl rfl hl.1 rfl (lv_room (Nat.le_of_ble_eq_true rfl)) dX1_findAddress_46 ⟨Nat.zero_le _, Nat.zero_le _⟩) hD hS hA (fun H locs hP hD hS => ?_)
      have e9 := Option.some.inj ht
      subst hQ
      exact W.iret (v := r4.1) hx hb hr (fun t ht9 hW => ⟨⟨r4.1, r4.2, rfl, ⟨pr1 e9, pr2 e9⟩, ⟨by rw [ht9]; exact hP, va_K.moved hW.alike hK, hD⟩⟩, hS.F ht9⟩) hS.2.2 dX1_findAddress_49
    · have ht := (if_neg g3).symm.trans ht
      by_cases g6 : a1 = (3 : Int32)
      · have ht := (if_pos g6).symm.trans ht
        refine lv_tableIn (off := 49) (tgt := 50) hx hb dX1_findAddress_1 (by rw [g6]; decide) (by rw [g6]; decide) (by rw [g6]; rfl) (by decide) ?_
        refine lv_aload_n hx hb dX1_findAddress_50 rfl (lv_at hl 0 rfl) ?_
        refine lv_aload_n hx hb dX1_findAddress_51 rfl (lv_at hl 0 rfl) ?_
        refine lv_iload_n hx hb dX1_findAddress_52 rfl (lv_at hl 2 rfl) ?_
        refine lv_iconst (v := (2 : Int32)) hx hb dX1_findAddress_53 (by decide) ?_
        obtain ⟨r7, h8, ht⟩ := ob_some ht
        refine kG_i (cl := clA o aw ar ak kI) (u := u) (va_runV (As := [.int a2, .int (2 : Int32)]) (rest := [.ref o]) ⟨hx, hb, hml, hown, hts⟩ (ctA_stepUp l D kI tb o aw ar ak H.size u a2 (2 : Int32) r7 h8) (cwV 2 hts (gV w_m_X1_58 w_im_yX1_stepUp w_sel_yX1_stepUp w_init_MicroMill w_co_yX1_stepUp) rfl rfl rfl (by decide +kernel) ⟨Nat.le_trans (Nat.le_of_ble_eq_true rfl) hRf, Nat.le_trans (Nat.le_of_ble_eq_true rfl) hRl⟩) (preA hK hP hD hS hA hZ _) rfl rfl hl.1 rfl (lv_room (Nat.le_of_ble_eq_true rfl)) dX1_findAddress_54 ⟨Nat.zero_le _, Nat.zero_le _⟩) hD hS hA (fun H locs hP hD hS => ?_)
        obtain ⟨r9, h10, ht⟩ := ob_some ht
        refine kG_i (cl := clA o aw ar ak kI) (u := r7.2) (va_runV (As := [.int r7.1]) (rest := []) ⟨hx, hb, hml, hown, hts⟩ (ctA_readWord l D kI tb o aw ar ak H.size r7.2 r7.1 r9 h10) (cwV 1 hts (gV w_m_X1_61 w_im_yX1_readWord w_sel_yX1_readWord w_init_MicroMill w_co_yX1_readWord) rfl rfl rfl (by decide +kernel) ⟨Nat.le_trans (Nat.le_of_ble_eq_true rfl) hRf, Nat.le_trans (Nat.le_of_ble_eq_true rfl) hRl⟩) (preA hK hP hD hS hA hZ _) rfl rfl hl.1 rfl (lv_room (Nat.le_of_ble_eq_true rfl)) dX1_findAddress_57 ⟨Nat.zero_le _, Nat.zero_le _⟩) hD hS hA (fun H locs hP hD hS => ?_)
        have e9 := Option.some.inj ht
        subst hQ
        exact W.iret (v := r9.1) hx hb hr (fun t ht9 hW => ⟨⟨r9.1, r9.2, rfl, ⟨pr1 e9, pr2 e9⟩, ⟨by rw [ht9]; exact hP, va_K.moved hW.alike hK, hD⟩⟩, hS.F ht9⟩) hS.2.2 dX1_findAddress_60
      · have ht := (if_neg g6).symm.trans ht
        by_cases g11 : a1 = (4 : Int32)
        · have ht := (if_pos g11).symm.trans ht
          refine lv_tableIn (off := 60) (tgt := 61) hx hb dX1_findAddress_1 (by rw [g11]; decide) (by rw [g11]; decide) (by rw [g11]; rfl) (by decide) ?_
          refine lv_aload_n hx hb dX1_findAddress_61 rfl (lv_at hl 0 rfl) ?_
          refine lv_iload_n hx hb dX1_findAddress_62 rfl (lv_at hl 2 rfl) ?_
          refine lv_iload_n hx hb dX1_findAddress_63 rfl (lv_at hl 3 rfl) ?_
          obtain ⟨r12, h13, ht⟩ := ob_some ht
          refine kG_i (cl := clA o aw ar ak kI) (u := u) (va_runV (As := [.int a2, .int a3]) (rest := []) ⟨hx, hb, hml, hown, hts⟩ (ctA_stepDown l D kI tb o aw ar ak H.size u a2 a3 r12 h13) (cwV 2 hts (gV w_m_X1_133 w_im_yX1_stepDown w_sel_yX1_stepDown w_init_MicroMill w_co_yX1_stepDown) rfl rfl rfl (by decide +kernel) ⟨Nat.le_trans (Nat.le_of_ble_eq_true rfl) hRf, Nat.le_trans (Nat.le_of_ble_eq_true rfl) hRl⟩) (preA hK hP hD hS hA hZ _) rfl rfl hl.1 rfl (lv_room (Nat.le_of_ble_eq_true rfl)) dX1_findAddress_64 ⟨Nat.zero_le _, Nat.zero_le _⟩) hD hS hA (fun H locs hP hD hS => ?_)
          have e9 := Option.some.inj ht
          subst hQ
          exact W.iret (v := r12.1) hx hb hr (fun t ht9 hW => ⟨⟨r12.1, r12.2, rfl, ⟨pr1 e9, pr2 e9⟩, ⟨by rw [ht9]; exact hP, va_K.moved hW.alike hK, hD⟩⟩, hS.F ht9⟩) hS.2.2 dX1_findAddress_67
        · have ht := (if_neg g11).symm.trans ht
          by_cases g14 : a1 = (5 : Int32)
          · have ht := (if_pos g14).symm.trans ht
            refine lv_tableIn (off := 67) (tgt := 68) hx hb dX1_findAddress_1 (by rw [g14]; decide) (by rw [g14]; decide) (by rw [g14]; rfl) (by decide) ?_
            refine lv_aload_n hx hb dX1_findAddress_68 rfl (lv_at hl 0 rfl) ?_
            refine lv_aload_n hx hb dX1_findAddress_69 rfl (lv_at hl 0 rfl) ?_
            refine lv_iload_n hx hb dX1_findAddress_70 rfl (lv_at hl 2 rfl) ?_
            refine lv_iconst (v := (2 : Int32)) hx hb dX1_findAddress_71 (by decide) ?_
            obtain ⟨r15, h16, ht⟩ := ob_some ht
            refine kG_i (cl := clA o aw ar ak kI) (u := u) (va_runV (As := [.int a2, .int (2 : Int32)]) (rest := [.ref o]) ⟨hx, hb, hml, hown, hts⟩ (ctA_stepDown l D kI tb o aw ar ak H.size u a2 (2 : Int32) r15 h16) (cwV 2 hts (gV w_m_X1_133 w_im_yX1_stepDown w_sel_yX1_stepDown w_init_MicroMill w_co_yX1_stepDown) rfl rfl rfl (by decide +kernel) ⟨Nat.le_trans (Nat.le_of_ble_eq_true rfl) hRf, Nat.le_trans (Nat.le_of_ble_eq_true rfl) hRl⟩) (preA hK hP hD hS hA hZ _) rfl rfl hl.1 rfl (lv_room (Nat.le_of_ble_eq_true rfl)) dX1_findAddress_72 ⟨Nat.zero_le _, Nat.zero_le _⟩) hD hS hA (fun H locs hP hD hS => ?_)
            obtain ⟨r17, h18, ht⟩ := ob_some ht
            refine kG_i (cl := clA o aw ar ak kI) (u := r15.2) (va_runV (As := [.int r15.1]) (rest := []) ⟨hx, hb, hml, hown, hts⟩ (ctA_readWord l D kI tb o aw ar ak H.size r15.2 r15.1 r17 h18) (cwV 1 hts (gV w_m_X1_61 w_im_yX1_readWord w_sel_yX1_readWord w_init_MicroMill w_co_yX1_readWord) rfl rfl rfl (by decide +kernel) ⟨Nat.le_trans (Nat.le_of_ble_eq_true rfl) hRf, Nat.le_trans (Nat.le_of_ble_eq_true rfl) hRl⟩) (preA hK hP hD hS hA hZ _) rfl rfl hl.1 rfl (lv_room (Nat.le_of_ble_eq_true rfl)) dX1_findAddress_75 ⟨Nat.zero_le _, Nat.zero_le _⟩) hD hS hA (fun H locs hP hD hS => ?_)
            have e9 := Option.some.inj ht
            subst hQ
            exact W.iret (v := r17.1) hx hb hr (fun t ht9 hW => ⟨⟨r17.1, r17.2, rfl, ⟨pr1 e9, pr2 e9⟩, ⟨by rw [ht9]; exact hP, va_K.moved hW.alike hK, hD⟩⟩, hS.F ht9⟩) hS.2.2 dX1_findAddress_78
          · have ht := (if_neg g14).symm.trans ht
            have ig1 := ne_toInt (a := 1) g1 (by decide)
            have ig3 := ne_toInt (a := 2) g3 (by decide)
            have ig6 := ne_toInt (a := 3) g6 (by decide)
            have ig11 := ne_toInt (a := 4) g11 (by decide)
            have ig14 := ne_toInt (a := 5) g14 (by decide)
            refine lv_tableOut (tgt := 79) hx hb dX1_findAddress_1 (by omega) (by decide) ?_
            refine lv_aload_n hx hb dX1_findAddress_79 rfl (lv_at hl 0 rfl) ?_
            refine lv_aload_n hx hb dX1_findAddress_80 rfl (lv_at hl 0 rfl) ?_
            refine lv_bipush (v := (7 : Int32)) hx hb dX1_findAddress_81 (by decide) ?_
            refine lv_iconst (v := (2 : Int32)) hx hb dX1_findAddress_83 (by decide) ?_
            obtain ⟨r19, h20, ht⟩ := ob_some ht
            refine kG_i (cl := clA o aw ar ak kI) (u := u) (va_runV (As := [.int (7 : Int32), .int (2 : Int32)]) (rest := [.ref o]) ⟨hx, hb, hml, hown, hts⟩ (ctA_stepUp l D kI tb o aw ar ak H.size u (7 : Int32) (2 : Int32) r19 h20) (cwV 2 hts (gV w_m_X1_58 w_im_yX1_stepUp w_sel_yX1_stepUp w_init_MicroMill w_co_yX1_stepUp) rfl rfl rfl (by decide +kernel) ⟨Nat.le_trans (Nat.le_of_ble_eq_true rfl) hRf, Nat.le_trans (Nat.le_of_ble_eq_true rfl) hRl⟩) (preA hK hP hD hS hA hZ _) rfl rfl hl.1 rfl (lv_room (Nat.le_of_ble_eq_true rfl)) dX1_findAddress_84 ⟨Nat.zero_le _, Nat.zero_le _⟩) hD hS hA (fun H locs hP hD hS => ?_)
            obtain ⟨r21, h22, ht⟩ := ob_some ht
            refine kG_i (cl := clA o aw ar ak kI) (u := r19.2) (va_runV (As := [.int r19.1]) (rest := []) ⟨hx, hb, hml, hown, hts⟩ (ctA_readWord l D kI tb o aw ar ak H.size r19.2 r19.1 r21 h22) (cwV 1 hts (gV w_m_X1_61 w_im_yX1_readWord w_sel_yX1_readWord w_init_MicroMill w_co_yX1_readWord) rfl rfl rfl (by decide +kernel) ⟨Nat.le_trans (Nat.le_of_ble_eq_true rfl) hRf, Nat.le_trans (Nat.le_of_ble_eq_true rfl) hRl⟩) (preA hK hP hD hS hA hZ _) rfl rfl hl.1 rfl (lv_room (Nat.le_of_ble_eq_true rfl)) dX1_findAddress_87 ⟨Nat.zero_le _, Nat.zero_le _⟩) hD hS hA (fun H locs hP hD hS => ?_)
            refine lv_istore (lv' := [(4, .int r21.1), (0, .ref o), (1, .int a1), (2, .int a2), (3, .int a3)]) hx hb dX1_findAddress_90 hl (by decide) rfl (fun ls hl => ?_)
            refine lv_iload hx hb dX1_findAddress_92 (lv_at hl 0 rfl) ?_
            refine lv_iconst (v := (-1 : Int32)) hx hb dX1_findAddress_94 (by decide) ?_
            refine lv_icmp_ne (tgt := 100) hx hb dX1_findAddress_95 (by decide) (fun g23 => ?_) (fun g23 => ?_)
            · have ht := (if_neg g23).symm.trans ht
              refine lv_iload hx hb dX1_findAddress_100 (lv_at hl 0 rfl) ?_
              refine lv_aload_n hx hb dX1_findAddress_102 rfl (lv_at hl 1 rfl) ?_
              refine va_get (D := D) (ci := 1) (v := .ref ar) (C := RX1) (T := TX1) (N := 7) hx hb hts hin0 hown hK hP 0 rfl rfl 1 (by decide) (hw w_f_X1_13) (fun _ h9 => h9) rfl dX1_findAddress_103 ?_
              refine lv_iload_n hx hb dX1_findAddress_106 rfl (lv_at hl 3 rfl) ?_
              obtain ⟨b24, ht⟩ := oi_some ht
              refine va_iald hx hb hK hP 2 0 rfl rfl (ixk_in b24) dX1_findAddress_107 ?_
              refine lv_iadd hx hb dX1_findAddress_108 ?_
              refine lv_ldc (v := (65535 : Int32)) hx hb hown (hw w_k_X1_41) dX1_findAddress_109 ?_
              refine lv_iand hx hb dX1_findAddress_111 ?_
              refine lv_istore (lv' := [(5, .int ((r21.1 + (r21.2.2.1 a2.toNatClampNeg)) &&& (65535 : Int32))), (4, .int r21.1), (0, .ref o), (1, .int a1), (2, .int a2), (3, .int a3)]) hx hb dX1_findAddress_112 hl (by decide) rfl (fun ls hl => ?_)
              refine lv_iload_n hx hb dX1_findAddress_114 rfl (lv_at hl 3 rfl) ?_
              refine lv_bipush (v := (6 : Int32)) hx hb dX1_findAddress_115 (by decide) ?_
              refine lv_icmp_ne (tgt := 125) hx hb dX1_findAddress_117 (by decide) (fun g25 => ?_) (fun g25 => ?_)
              · have ht := (if_neg g25).symm.trans ht
                refine lv_aload_n hx hb dX1_findAddress_125 rfl (lv_at hl 2 rfl) ?_
                refine lv_iload hx hb dX1_findAddress_126 (lv_at hl 0 rfl) ?_
                obtain ⟨r26, h27, ht⟩ := ob_some ht
                refine kG_i (cl := clA o aw ar ak kI) (u := r21.2) (va_runV (As := [.int ((r21.1 + (r21.2.2.1 a2.toNatClampNeg)) &&& (65535 : Int32))]) (rest := []) ⟨hx, hb, hml, hown, hts⟩ (ctA_readWord l D kI tb o aw ar ak H.size r21.2 ((r21.1 + (r21.2.2.1 a2.toNatClampNeg)) &&& (65535 : Int32)) r26 h27) (cwV 1 hts (gV w_m_X1_61 w_im_yX1_readWord w_sel_yX1_readWord w_init_MicroMill w_co_yX1_readWord) rfl rfl rfl (by decide +kernel) ⟨Nat.le_trans (Nat.le_of_ble_eq_true rfl) hRf, Nat.le_trans (Nat.le_of_ble_eq_true rfl) hRl⟩) (preA hK hP hD hS hA hZ _) rfl rfl hl.1 rfl (lv_room (Nat.le_of_ble_eq_true rfl)) dX1_findAddress_128 ⟨Nat.zero_le _, Nat.zero_le _⟩) hD hS hA (fun H locs hP hD hS => ?_)
                exact K131 _ _ _ r26.2 r26.1 hP hD hS (lv_sub hl [] rfl) ht
              · have ht := (if_pos g25).symm.trans ht
                refine lv_iload hx hb dX1_findAddress_120 (lv_at hl 0 rfl) ?_
                refine lv_goto (tgt := 131) hx hb dX1_findAddress_122 (by decide) ?_
                exact K131 _ _ _ r21.2 ((r21.1 + (r21.2.2.1 a2.toNatClampNeg)) &&& (65535 : Int32)) hP hD hS (lv_sub hl [] rfl) ht
            · have ht := (if_pos g23).symm.trans ht
              refine lv_iconst (v := (-1 : Int32)) hx hb dX1_findAddress_98 (by decide) ?_
              have e9 := Option.some.inj ht
              subst hQ
              exact W.iret (v := (-1 : Int32)) hx hb hr (fun t ht9 hW => ⟨⟨(-1 : Int32), r21.2, rfl, ⟨pr1 e9, pr2 e9⟩, ⟨by rw [ht9]; exact hP, va_K.moved hW.alike hK, hD⟩⟩, hS.F ht9⟩) hS.2.2 dX1_findAddress_99
def fnA_findTarget (u : sA) (a1 : Int32) : Option (Int32 × sA) := if (a1 >>> ((3 : Int32) &&& 31)) = 0 then (some ((-1 : Int32), (u.1, u.2.1, (2 : Int32), u.2.2.2.1, u.2.2.2.2.1, u.2.2.2.2.2.1, u.2.2.2.2.2.2))) else (if ixk (a1 >>> ((3 : Int32) &&& 31)) 8 then (nm (u.2.2.2.2.1 + ((mcT (a1 >>> ((3 : Int32) &&& 31)).toNatClampNeg) - (1 : Int32))) (fun z3 => (fnA_findAddress (u.1, u.2.1, u.2.2.1, u.2.2.2.1, z3, u.2.2.2.2.2.1, u.2.2.2.2.2.2) (a1 >>> ((3 : Int32) &&& 31)) (a1 &&& (7 : Int32)) (2 : Int32)).bind (fun r4 => some (r4.1, r4.2)))) else none)
set_option maxRecDepth 100000 in
set_option maxHeartbeats 4000000 in
theorem ctA_findTarget (l : Launch) (D : va_G) (kI : ClassId) (tb : Nat) (o aw ar ak : Nat) (sz : Nat) (u : sA) (a1 : Int32) (tg : Int32 × sA) (ht : fnA_findTarget u a1 = some tg) : Met l yX1_findTarget (Cond.code yX1_findTarget cX1_findTarget 3 (some .int) :: wAll) ({ frames := 2, cells := 0, slots := 0, locals := 48 } : Room) (va_Pc [.ref o, .int a1] (prA D kI tb o aw ar ak sz u)) (va_Qi (fun (x : Int32) (v : sA) => x = tg.1 ∧ v = tg.2) (poG D kI (clA o aw ar ak kI) (va_A (clA o aw ar ak kI u) sz)) (va_A (clA o aw ar ak kI u) sz)) 0 0 (va_A (clA o aw ar ak kI u) sz) := by
  refine mOfW (cc := cX1_findTarget) (maxL := 3) (ret := (some .int)) (by decide) rfl ?_
  intro p e s m args below meth c s₁ Q R hQ hR B hml hv
  obtain ⟨rfl, hsz, hP, hK, hD0, hZ⟩ := hv
  have hx := B.exec
  have hb := B.bytes
  have hr := B.returns
  have hts := atoms_spec (ws := Cond.code yX1_findTarget cX1_findTarget 3 (some .int) :: wAll) B.pre
  have hw : ∀ {w : Cond}, w ∈ wAll → w.before _ s = true := fun {w} h => hts w (List.mem_cons_of_mem _ h)
  have hown : s.vm.findClass RX1 = some m.cls := findClass_of_methodNamed B.named
  have hlocks := B.notSynchronized
  have hRf : 2 ≤ R.frames := by rw [hR]; exact Nat.le_refl _
  have hRl : 48 ≤ R.locals := by rw [hR]; exact Nat.le_refl _
  subst hsz
  have hD := hD0.self (sz := s.heap.size)
  generalize hAe : va_A (clA o aw ar ak kI u) s.heap.size = A at hD hZ hQ
  have hA : ∀ q : Nat, s.heap.size ≤ q → A q := fun q h => by rw [← hAe]; exact Or.inr h
  have hl := lv_entry ([.ref o, .int a1]) (n := 3) (Nat.le_of_ble_eq_true rfl)
  rw [lg_entry_eq]
  generalize (lg_sl ([.ref o, .int a1]) ++ List.replicate (3 - (lg_sl ([.ref o, .int a1])).length) Slot.unset).toArray = ls at hl ⊢
  have hl : lv_has ls 3 [(0, .ref o), (1, .int a1)] := hl
  have hin0 : ∀ w ∈ u_ws RX1 TX1 7, w ∈ (Cond.code yX1_findTarget cX1_findTarget 3 (some .int) :: wAll) := fun w h => List.mem_cons_of_mem _ (w_flX1 w h)
  unfold fnA_findTarget at ht
  obtain ⟨H, hHe⟩ : ∃ H : Heap, H = s.heap := ⟨_, rfl⟩
  have hP : va_P D vwCl (clA o aw ar ak kI u) H := by rw [hHe]; exact hP
  have hS : va_S A s.heap H [] := by rw [hHe]; exact va_S.rf
  rw [← hHe]
  refine lv_iload_n hx hb dX1_findTarget_0 rfl (lv_at hl 1 rfl) ?_
  refine lv_iconst (v := (3 : Int32)) hx hb dX1_findTarget_1 (by decide) ?_
  refine lv_ishr hx hb dX1_findTarget_2 ?_
  refine lv_istore_n (lv' := [(2, .int (a1 >>> ((3 : Int32) &&& 31))), (0, .ref o), (1, .int a1)]) hx hb dX1_findTarget_3 rfl hl (by decide) rfl (fun ls hl => ?_)
  refine lv_iload_n hx hb dX1_findTarget_4 rfl (lv_at hl 0 rfl) ?_
  refine lv_if_ne (tgt := 15) hx hb dX1_findTarget_5 (by decide) (fun g1 => ?_) (fun g1 => ?_)
  · have ht := (if_neg g1).symm.trans ht
    refine lv_aload_n hx hb dX1_findTarget_15 rfl (lv_at hl 1 rfl) ?_
    refine lv_dup hx hb dX1_findTarget_16 rfl ?_
    refine va_get (D := D) (ci := 1) (v := .int u.2.2.2.2.1) (C := RX1) (T := TX1) (N := 7) hx hb hts hin0 hown hK hP 0 rfl rfl 5 (by decide) (hw w_f_X1_31) (fun _ h9 => h9) rfl dX1_findTarget_17 ?_
    refine va_gets hx hb hZ.1 hS hown (hw w_f_X1_143) (fun _ h9 => h9) dX1_findTarget_20 ?_
    refine lv_iload_n hx hb dX1_findTarget_23 rfl (lv_at hl 0 rfl) ?_
    obtain ⟨b2, ht⟩ := oi_some ht
    refine va_ti hx hb hZ.2.1 hS (ixk_in b2) (v := .int (mcT (a1 >>> ((3 : Int32) &&& 31)).toNatClampNeg)) rfl dX1_findTarget_24 ?_
    refine lv_iconst (v := (1 : Int32)) hx hb dX1_findTarget_25 (by decide) ?_
    refine lv_isub hx hb dX1_findTarget_26 ?_
    refine lv_iadd hx hb dX1_findTarget_27 ?_
    refine lv_topi (fun z3 ez3 => ?_)
    have ht := nm_eq ez3 ht
    refine va_put (D := D) (ci := 1) (v := .int z3) (ty := .int) (C := RX1) (T := TX1) (N := 7) hx hb hts hin0 tyX1 tyX1_ok nmX1 hown hK hP hD hS 0 rfl rfl 5 (by decide) (hw w_f_X1_31) (fun _ h9 => h9) rfl (by decide +kernel) rfl rfl (Nat.le_of_ble_eq_true rfl) dX1_findTarget_28 (fun H locs hP hD hS => ?_)
    have hP : va_P D vwCl (clA o aw ar ak kI (u.1, u.2.1, u.2.2.1, u.2.2.2.1, z3, u.2.2.2.2.2.1, u.2.2.2.2.2.2)) H := hP
    have hD : va_D A (clA o aw ar ak kI (u.1, u.2.1, u.2.2.1, u.2.2.2.1, z3, u.2.2.2.2.2.1, u.2.2.2.2.2.2)) := hD
    refine lv_aload_n hx hb dX1_findTarget_31 rfl (lv_at hl 1 rfl) ?_
    refine lv_iload_n hx hb dX1_findTarget_32 rfl (lv_at hl 0 rfl) ?_
    refine lv_iload_n hx hb dX1_findTarget_33 rfl (lv_at hl 2 rfl) ?_
    refine lv_bipush (v := (7 : Int32)) hx hb dX1_findTarget_34 (by decide) ?_
    refine lv_iand hx hb dX1_findTarget_36 ?_
    refine lv_iconst (v := (2 : Int32)) hx hb dX1_findTarget_37 (by decide) ?_
    obtain ⟨r4, h5, ht⟩ := ob_some ht
    refine kG_i (cl := clA o aw ar ak kI) (u := (u.1, u.2.1, u.2.2.1, u.2.2.2.1, z3, u.2.2.2.2.2.1, u.2.2.2.2.2.2)) (va_runV (As := [.int (a1 >>> ((3 : Int32) &&& 31)), .int (a1 &&& (7 : Int32)), .int (2 : Int32)]) (rest := []) ⟨hx, hb, hml, hown, hts⟩ (ctA_findAddress l D kI tb o aw ar ak H.size (u.1, u.2.1, u.2.2.1, u.2.2.2.1, z3, u.2.2.2.2.2.1, u.2.2.2.2.2.2) (a1 >>> ((3 : Int32) &&& 31)) (a1 &&& (7 : Int32)) (2 : Int32) r4 h5) (cwV 3 hts (gV w_m_X1_146 w_im_yX1_findAddress w_sel_yX1_findAddress w_init_MicroMill w_co_yX1_findAddress) rfl rfl rfl (by decide +kernel) ⟨Nat.le_trans (Nat.le_of_ble_eq_true rfl) hRf, Nat.le_trans (Nat.le_of_ble_eq_true rfl) hRl⟩) (preA hK hP hD hS hA hZ _) rfl rfl hl.1 rfl (lv_room (Nat.le_of_ble_eq_true rfl)) dX1_findTarget_38 ⟨Nat.zero_le _, Nat.zero_le _⟩) hD hS hA (fun H locs hP hD hS => ?_)
    have e9 := Option.some.inj ht
    subst hQ
    exact W.iret (v := r4.1) hx hb hr (fun t ht9 hW => ⟨⟨r4.1, r4.2, rfl, ⟨pr1 e9, pr2 e9⟩, ⟨by rw [ht9]; exact hP, va_K.moved hW.alike hK, hD⟩⟩, hS.F ht9⟩) hS.2.2 dX1_findTarget_41
  · have ht := (if_pos g1).symm.trans ht
    refine lv_aload_n hx hb dX1_findTarget_8 rfl (lv_at hl 1 rfl) ?_
    refine lv_iconst (v := (2 : Int32)) hx hb dX1_findTarget_9 (by decide) ?_
    refine va_put (D := D) (ci := 1) (v := .int (2 : Int32)) (ty := .int) (C := RX1) (T := TX1) (N := 7) hx hb hts hin0 tyX1 tyX1_ok nmX1 hown hK hP hD hS 0 rfl rfl 3 (by decide) (hw w_f_X1_23) (fun _ h9 => h9) rfl (by decide +kernel) rfl rfl (Nat.le_of_ble_eq_true rfl) dX1_findTarget_10 (fun H locs hP hD hS => ?_)
    have hP : va_P D vwCl (clA o aw ar ak kI (u.1, u.2.1, (2 : Int32), u.2.2.2.1, u.2.2.2.2.1, u.2.2.2.2.2.1, u.2.2.2.2.2.2)) H := hP
    have hD : va_D A (clA o aw ar ak kI (u.1, u.2.1, (2 : Int32), u.2.2.2.1, u.2.2.2.2.1, u.2.2.2.2.2.1, u.2.2.2.2.2.2)) := hD
    refine lv_iconst (v := (-1 : Int32)) hx hb dX1_findTarget_13 (by decide) ?_
    have e9 := Option.some.inj ht
    subst hQ
    exact W.iret (v := (-1 : Int32)) hx hb hr (fun t ht9 hW => ⟨⟨(-1 : Int32), (u.1, u.2.1, (2 : Int32), u.2.2.2.1, u.2.2.2.2.1, u.2.2.2.2.2.1, u.2.2.2.2.2.2), rfl, ⟨pr1 e9, pr2 e9⟩, ⟨by rw [ht9]; exact hP, va_K.moved hW.alike hK, hD⟩⟩, hS.F ht9⟩) hS.2.2 dX1_findTarget_14
def fnA_doJump_32 (u : sA) : Option (Unit × sA) := some ((), u)
def fnA_doJump (u : sA) (a1 : Int32) : Option (Unit × sA) := (fnA_findTarget u (a1 &&& (63 : Int32))).bind (fun r1 => if r1.1 = (-1 : Int32) then (fnA_doJump_32 r1.2) else (if ixk (7 : Int32) 8 then (fnA_doJump_32 (r1.2.1, (upd r1.2.2.1 (7 : Int32).toNatClampNeg r1.1), r1.2.2.2.1, r1.2.2.2.2.1, (r1.2.2.2.2.2.1 + (1 : Int32)), r1.2.2.2.2.2.2.1, r1.2.2.2.2.2.2.2)) else none))
set_option maxRecDepth 100000 in
set_option maxHeartbeats 4000000 in
theorem ctA_doJump (l : Launch) (D : va_G) (kI : ClassId) (tb : Nat) (o aw ar ak : Nat) (sz : Nat) (u : sA) (a1 : Int32) (tg : Unit × sA) (ht : fnA_doJump u a1 = some tg) : Met l yX1_doJump (Cond.code yX1_doJump cX1_doJump 3 none :: wAll) ({ frames := 3, cells := 0, slots := 0, locals := 70 } : Room) (va_Pc [.ref o, .int a1] (prA D kI tb o aw ar ak sz u)) (va_Qv (fun (v : sA) => v = tg.2) (poG D kI (clA o aw ar ak kI) (va_A (clA o aw ar ak kI u) sz)) (va_A (clA o aw ar ak kI u) sz)) 0 0 (va_A (clA o aw ar ak kI u) sz) := by
  refine mOfW (cc := cX1_doJump) (maxL := 3) (ret := none) (by decide) rfl ?_
  intro p e s m args below meth c s₁ Q R hQ hR B hml hv
  obtain ⟨rfl, hsz, hP, hK, hD0, hZ⟩ := hv
  have hx := B.exec
  have hb := B.bytes
  have hr := B.returns
  have hts := atoms_spec (ws := Cond.code yX1_doJump cX1_doJump 3 none :: wAll) B.pre
  have hw : ∀ {w : Cond}, w ∈ wAll → w.before _ s = true := fun {w} h => hts w (List.mem_cons_of_mem _ h)
  have hown : s.vm.findClass RX1 = some m.cls := findClass_of_methodNamed B.named
  have hlocks := B.notSynchronized
  have hRf : 3 ≤ R.frames := by rw [hR]; exact Nat.le_refl _
  have hRl : 70 ≤ R.locals := by rw [hR]; exact Nat.le_refl _
  subst hsz
  have hD := hD0.self (sz := s.heap.size)
  generalize hAe : va_A (clA o aw ar ak kI u) s.heap.size = A at hD hZ hQ
  have hA : ∀ q : Nat, s.heap.size ≤ q → A q := fun q h => by rw [← hAe]; exact Or.inr h
  have hl := lv_entry ([.ref o, .int a1]) (n := 3) (Nat.le_of_ble_eq_true rfl)
  rw [lg_entry_eq]
  generalize (lg_sl ([.ref o, .int a1]) ++ List.replicate (3 - (lg_sl ([.ref o, .int a1])).length) Slot.unset).toArray = ls at hl ⊢
  have hl : lv_has ls 3 [(0, .ref o), (1, .int a1)] := hl
  have hin0 : ∀ w ∈ u_ws RX1 TX1 7, w ∈ (Cond.code yX1_doJump cX1_doJump 3 none :: wAll) := fun w h => List.mem_cons_of_mem _ (w_flX1 w h)
  have K32 : ∀ (H : Heap) (locs : List Loc) (ls : Array Slot) (u : sA) , va_P D vwCl (clA o aw ar ak kI u) H → va_D A (clA o aw ar ak kI u) → va_S A s.heap H locs → lv_has ls 3 [] → fnA_doJump_32 u  = some tg → W p l e R s m ([.ref o, .int a1] : List Value).toArray below meth c H locs 0 0 Q (F0 m 32 ls []) := by
    intro H locs ls u  hP hD hS hl ht
    unfold fnA_doJump_32 at ht
    have e9 := Option.some.inj ht
    subst hQ
    exact W.vret hx hb hr (fun t ht9 hW => ⟨⟨u, rfl, pr2 e9, ⟨by rw [ht9]; exact hP, va_K.moved hW.alike hK, hD⟩⟩, hS.F ht9⟩) hS.2.2 dX1_doJump_32
  unfold fnA_doJump at ht
  obtain ⟨H, hHe⟩ : ∃ H : Heap, H = s.heap := ⟨_, rfl⟩
  have hP : va_P D vwCl (clA o aw ar ak kI u) H := by rw [hHe]; exact hP
  have hS : va_S A s.heap H [] := by rw [hHe]; exact va_S.rf
  rw [← hHe]
  refine lv_aload_n hx hb dX1_doJump_0 rfl (lv_at hl 0 rfl) ?_
  refine lv_iload_n hx hb dX1_doJump_1 rfl (lv_at hl 1 rfl) ?_
  refine lv_bipush (v := (63 : Int32)) hx hb dX1_doJump_2 (by decide) ?_
  refine lv_iand hx hb dX1_doJump_4 ?_
  obtain ⟨r1, h2, ht⟩ := ob_some ht
  refine kG_i (cl := clA o aw ar ak kI) (u := u) (va_runV (As := [.int (a1 &&& (63 : Int32))]) (rest := []) ⟨hx, hb, hml, hown, hts⟩ (ctA_findTarget l D kI tb o aw ar ak H.size u (a1 &&& (63 : Int32)) r1 h2) (cwV 1 hts (gV w_m_X1_136 w_im_yX1_findTarget w_sel_yX1_findTarget w_init_MicroMill w_co_yX1_findTarget) rfl rfl rfl (by decide +kernel) ⟨Nat.le_trans (Nat.le_of_ble_eq_true rfl) hRf, Nat.le_trans (Nat.le_of_ble_eq_true rfl) hRl⟩) (preA hK hP hD hS hA hZ _) rfl rfl hl.1 rfl (lv_room (Nat.le_of_ble_eq_true rfl)) dX1_doJump_5 ⟨Nat.zero_le _, Nat.zero_le _⟩) hD hS hA (fun H locs hP hD hS => ?_)
  refine lv_istore_n (lv' := [(2, .int r1.1), (0, .ref o), (1, .int a1)]) hx hb dX1_doJump_8 rfl hl (by decide) rfl (fun ls hl => ?_)
  refine lv_iload_n hx hb dX1_doJump_9 rfl (lv_at hl 0 rfl) ?_
  refine lv_iconst (v := (-1 : Int32)) hx hb dX1_doJump_10 (by decide) ?_
  refine lv_icmp_eq (tgt := 32) hx hb dX1_doJump_11 (by decide) (fun g3 => ?_) (fun g3 => ?_)
  · have ht := (if_pos g3).symm.trans ht
    exact K32 _ _ _ r1.2 hP hD hS (lv_sub hl [] rfl) ht
  · have ht := (if_neg g3).symm.trans ht
    refine lv_aload_n hx hb dX1_doJump_14 rfl (lv_at hl 1 rfl) ?_
    refine va_get (D := D) (ci := 1) (v := .ref ar) (C := RX1) (T := TX1) (N := 7) hx hb hts hin0 hown hK hP 0 rfl rfl 1 (by decide) (hw w_f_X1_13) (fun _ h9 => h9) rfl dX1_doJump_15 ?_
    refine lv_bipush (v := (7 : Int32)) hx hb dX1_doJump_18 (by decide) ?_
    refine lv_iload_n hx hb dX1_doJump_20 rfl (lv_at hl 0 rfl) ?_
    obtain ⟨b4, ht⟩ := oi_some ht
    refine va_iast hx hb hK hP hD hS 2 0 rfl rfl (ixk_in b4) dX1_doJump_21 (fun H locs hP hD hS => ?_)
    have hP : va_P D vwCl (clA o aw ar ak kI (r1.2.1, (upd r1.2.2.1 (7 : Int32).toNatClampNeg r1.1), r1.2.2.2.1, r1.2.2.2.2.1, r1.2.2.2.2.2.1, r1.2.2.2.2.2.2.1, r1.2.2.2.2.2.2.2)) H := hP
    have hD : va_D A (clA o aw ar ak kI (r1.2.1, (upd r1.2.2.1 (7 : Int32).toNatClampNeg r1.1), r1.2.2.2.1, r1.2.2.2.2.1, r1.2.2.2.2.2.1, r1.2.2.2.2.2.2.1, r1.2.2.2.2.2.2.2)) := hD
    refine lv_aload_n hx hb dX1_doJump_22 rfl (lv_at hl 1 rfl) ?_
    refine lv_dup hx hb dX1_doJump_23 rfl ?_
    refine va_get (D := D) (ci := 1) (v := .int r1.2.2.2.2.2.1) (C := RX1) (T := TX1) (N := 7) hx hb hts hin0 hown hK hP 0 rfl rfl 5 (by decide) (hw w_f_X1_31) (fun _ h9 => h9) rfl dX1_doJump_24 ?_
    refine lv_iconst (v := (1 : Int32)) hx hb dX1_doJump_27 (by decide) ?_
    refine lv_iadd hx hb dX1_doJump_28 ?_
    refine va_put (D := D) (ci := 1) (v := .int (r1.2.2.2.2.2.1 + (1 : Int32))) (ty := .int) (C := RX1) (T := TX1) (N := 7) hx hb hts hin0 tyX1 tyX1_ok nmX1 hown hK hP hD hS 0 rfl rfl 5 (by decide) (hw w_f_X1_31) (fun _ h9 => h9) rfl (by decide +kernel) rfl rfl (Nat.le_of_ble_eq_true rfl) dX1_doJump_29 (fun H locs hP hD hS => ?_)
    have hP : va_P D vwCl (clA o aw ar ak kI (r1.2.1, (upd r1.2.2.1 (7 : Int32).toNatClampNeg r1.1), r1.2.2.2.1, r1.2.2.2.2.1, (r1.2.2.2.2.2.1 + (1 : Int32)), r1.2.2.2.2.2.2.1, r1.2.2.2.2.2.2.2)) H := hP
    have hD : va_D A (clA o aw ar ak kI (r1.2.1, (upd r1.2.2.1 (7 : Int32).toNatClampNeg r1.1), r1.2.2.2.1, r1.2.2.2.2.1, (r1.2.2.2.2.2.1 + (1 : Int32)), r1.2.2.2.2.2.2.1, r1.2.2.2.2.2.2.2)) := hD
    exact K32 _ _ _ (r1.2.1, (upd r1.2.2.1 (7 : Int32).toNatClampNeg r1.1), r1.2.2.2.1, r1.2.2.2.2.1, (r1.2.2.2.2.2.1 + (1 : Int32)), r1.2.2.2.2.2.2.1, r1.2.2.2.2.2.2.2) hP hD hS (lv_sub hl [] rfl) ht
def fnA_doJumpToSubroutine (u : sA) (a1 : Int32) : Option (Unit × sA) := (fnA_findTarget u (a1 &&& (63 : Int32))).bind (fun r1 => if r1.1 = (-1 : Int32) then (some ((), r1.2)) else ((fnA_stepDown r1.2 (6 : Int32) (2 : Int32)).bind (fun r4 => (fnA_readWord r4.2 r4.1).bind (fun r6 => if r6.1 = (-1 : Int32) then (some ((), r6.2)) else (if ixk ((a1 >>> ((6 : Int32) &&& 31)) &&& (7 : Int32)) 8 then (if ixk (r4.1 >>> ((1 : Int32) &&& 31)) 2048 then (if ixk (7 : Int32) 8 then (if ixk ((a1 >>> ((6 : Int32) &&& 31)) &&& (7 : Int32)) 8 then (if ixk (7 : Int32) 8 then (some ((), ((upd r6.2.1 (r4.1 >>> ((1 : Int32) &&& 31)).toNatClampNeg (r6.2.2.1 ((a1 >>> ((6 : Int32) &&& 31)) &&& (7 : Int32)).toNatClampNeg)), (upd (upd r6.2.2.1 ((a1 >>> ((6 : Int32) &&& 31)) &&& (7 : Int32)).toNatClampNeg (r6.2.2.1 (7 : Int32).toNatClampNeg)) (7 : Int32).toNatClampNeg r1.1), r6.2.2.2.1, r6.2.2.2.2.1, (r6.2.2.2.2.2.1 + (6 : Int32)), r6.2.2.2.2.2.2.1, r6.2.2.2.2.2.2.2))) else none) else none) else none) else none) else none)))))
set_option maxRecDepth 100000 in
set_option maxHeartbeats 4000000 in
theorem ctA_doJumpToSubroutine (l : Launch) (D : va_G) (kI : ClassId) (tb : Nat) (o aw ar ak : Nat) (sz : Nat) (u : sA) (a1 : Int32) (tg : Unit × sA) (ht : fnA_doJumpToSubroutine u a1 = some tg) : Met l yX1_doJumpToSubroutine (Cond.code yX1_doJumpToSubroutine cX1_doJumpToSubroutine 5 none :: wAll) ({ frames := 3, cells := 0, slots := 0, locals := 70 } : Room) (va_Pc [.ref o, .int a1] (prA D kI tb o aw ar ak sz u)) (va_Qv (fun (v : sA) => v = tg.2) (poG D kI (clA o aw ar ak kI) (va_A (clA o aw ar ak kI u) sz)) (va_A (clA o aw ar ak kI u) sz)) 0 0 (va_A (clA o aw ar ak kI u) sz) := by
  refine mOfW (cc := cX1_doJumpToSubroutine) (maxL := 5) (ret := none) (by decide) rfl ?_
  intro p e s m args below meth c s₁ Q R hQ hR B hml hv
  obtain ⟨rfl, hsz, hP, hK, hD0, hZ⟩ := hv
  have hx := B.exec
  have hb := B.bytes
  have hr := B.returns
  have hts := atoms_spec (ws := Cond.code yX1_doJumpToSubroutine cX1_doJumpToSubroutine 5 none :: wAll) B.pre
  have hw : ∀ {w : Cond}, w ∈ wAll → w.before _ s = true := fun {w} h => hts w (List.mem_cons_of_mem _ h)
  have hown : s.vm.findClass RX1 = some m.cls := findClass_of_methodNamed B.named
  have hlocks := B.notSynchronized
  have hRf : 3 ≤ R.frames := by rw [hR]; exact Nat.le_refl _
  have hRl : 70 ≤ R.locals := by rw [hR]; exact Nat.le_refl _
  subst hsz
  have hD := hD0.self (sz := s.heap.size)
  generalize hAe : va_A (clA o aw ar ak kI u) s.heap.size = A at hD hZ hQ
  have hA : ∀ q : Nat, s.heap.size ≤ q → A q := fun q h => by rw [← hAe]; exact Or.inr h
  have hl := lv_entry ([.ref o, .int a1]) (n := 5) (Nat.le_of_ble_eq_true rfl)
  rw [lg_entry_eq]
  generalize (lg_sl ([.ref o, .int a1]) ++ List.replicate (5 - (lg_sl ([.ref o, .int a1])).length) Slot.unset).toArray = ls at hl ⊢
  have hl : lv_has ls 5 [(0, .ref o), (1, .int a1)] := hl
  have hin0 : ∀ w ∈ u_ws RX1 TX1 7, w ∈ (Cond.code yX1_doJumpToSubroutine cX1_doJumpToSubroutine 5 none :: wAll) := fun w h => List.mem_cons_of_mem _ (w_flX1 w h)
  unfold fnA_doJumpToSubroutine at ht
  obtain ⟨H, hHe⟩ : ∃ H : Heap, H = s.heap := ⟨_, rfl⟩
  have hP : va_P D vwCl (clA o aw ar ak kI u) H := by rw [hHe]; exact hP
  have hS : va_S A s.heap H [] := by rw [hHe]; exact va_S.rf
  rw [← hHe]
  refine lv_aload_n hx hb dX1_doJumpToSubroutine_0 rfl (lv_at hl 0 rfl) ?_
  refine lv_iload_n hx hb dX1_doJumpToSubroutine_1 rfl (lv_at hl 1 rfl) ?_
  refine lv_bipush (v := (63 : Int32)) hx hb dX1_doJumpToSubroutine_2 (by decide) ?_
  refine lv_iand hx hb dX1_doJumpToSubroutine_4 ?_
  obtain ⟨r1, h2, ht⟩ := ob_some ht
  refine kG_i (cl := clA o aw ar ak kI) (u := u) (va_runV (As := [.int (a1 &&& (63 : Int32))]) (rest := []) ⟨hx, hb, hml, hown, hts⟩ (ctA_findTarget l D kI tb o aw ar ak H.size u (a1 &&& (63 : Int32)) r1 h2) (cwV 1 hts (gV w_m_X1_136 w_im_yX1_findTarget w_sel_yX1_findTarget w_init_MicroMill w_co_yX1_findTarget) rfl rfl rfl (by decide +kernel) ⟨Nat.le_trans (Nat.le_of_ble_eq_true rfl) hRf, Nat.le_trans (Nat.le_of_ble_eq_true rfl) hRl⟩) (preA hK hP hD hS hA hZ _) rfl rfl hl.1 rfl (lv_room (Nat.le_of_ble_eq_true rfl)) dX1_doJumpToSubroutine_5 ⟨Nat.zero_le _, Nat.zero_le _⟩) hD hS hA (fun H locs hP hD hS => ?_)
  refine lv_istore_n (lv' := [(2, .int r1.1), (0, .ref o), (1, .int a1)]) hx hb dX1_doJumpToSubroutine_8 rfl hl (by decide) rfl (fun ls hl => ?_)
  refine lv_iload_n hx hb dX1_doJumpToSubroutine_9 rfl (lv_at hl 0 rfl) ?_
  refine lv_iconst (v := (-1 : Int32)) hx hb dX1_doJumpToSubroutine_10 (by decide) ?_
  refine lv_icmp_ne (tgt := 15) hx hb dX1_doJumpToSubroutine_11 (by decide) (fun g3 => ?_) (fun g3 => ?_)
  · have ht := (if_neg g3).symm.trans ht
    refine lv_aload_n hx hb dX1_doJumpToSubroutine_15 rfl (lv_at hl 1 rfl) ?_
    refine lv_bipush (v := (6 : Int32)) hx hb dX1_doJumpToSubroutine_16 (by decide) ?_
    refine lv_iconst (v := (2 : Int32)) hx hb dX1_doJumpToSubroutine_18 (by decide) ?_
    obtain ⟨r4, h5, ht⟩ := ob_some ht
    refine kG_i (cl := clA o aw ar ak kI) (u := r1.2) (va_runV (As := [.int (6 : Int32), .int (2 : Int32)]) (rest := []) ⟨hx, hb, hml, hown, hts⟩ (ctA_stepDown l D kI tb o aw ar ak H.size r1.2 (6 : Int32) (2 : Int32) r4 h5) (cwV 2 hts (gV w_m_X1_133 w_im_yX1_stepDown w_sel_yX1_stepDown w_init_MicroMill w_co_yX1_stepDown) rfl rfl rfl (by decide +kernel) ⟨Nat.le_trans (Nat.le_of_ble_eq_true rfl) hRf, Nat.le_trans (Nat.le_of_ble_eq_true rfl) hRl⟩) (preA hK hP hD hS hA hZ _) rfl rfl hl.1 rfl (lv_room (Nat.le_of_ble_eq_true rfl)) dX1_doJumpToSubroutine_19 ⟨Nat.zero_le _, Nat.zero_le _⟩) hD hS hA (fun H locs hP hD hS => ?_)
    refine lv_istore_n (lv' := [(3, .int r4.1), (2, .int r1.1), (0, .ref o), (1, .int a1)]) hx hb dX1_doJumpToSubroutine_22 rfl hl (by decide) rfl (fun ls hl => ?_)
    refine lv_aload_n hx hb dX1_doJumpToSubroutine_23 rfl (lv_at hl 2 rfl) ?_
    refine lv_iload_n hx hb dX1_doJumpToSubroutine_24 rfl (lv_at hl 0 rfl) ?_
    obtain ⟨r6, h7, ht⟩ := ob_some ht
    refine kG_i (cl := clA o aw ar ak kI) (u := r4.2) (va_runV (As := [.int r4.1]) (rest := []) ⟨hx, hb, hml, hown, hts⟩ (ctA_readWord l D kI tb o aw ar ak H.size r4.2 r4.1 r6 h7) (cwV 1 hts (gV w_m_X1_61 w_im_yX1_readWord w_sel_yX1_readWord w_init_MicroMill w_co_yX1_readWord) rfl rfl rfl (by decide +kernel) ⟨Nat.le_trans (Nat.le_of_ble_eq_true rfl) hRf, Nat.le_trans (Nat.le_of_ble_eq_true rfl) hRl⟩) (preA hK hP hD hS hA hZ _) rfl rfl hl.1 rfl (lv_room (Nat.le_of_ble_eq_true rfl)) dX1_doJumpToSubroutine_25 ⟨Nat.zero_le _, Nat.zero_le _⟩) hD hS hA (fun H locs hP hD hS => ?_)
    refine lv_iconst (v := (-1 : Int32)) hx hb dX1_doJumpToSubroutine_28 (by decide) ?_
    refine lv_icmp_ne (tgt := 33) hx hb dX1_doJumpToSubroutine_29 (by decide) (fun g8 => ?_) (fun g8 => ?_)
    · have ht := (if_neg g8).symm.trans ht
      refine lv_iload_n hx hb dX1_doJumpToSubroutine_33 rfl (lv_at hl 3 rfl) ?_
      refine lv_bipush (v := (6 : Int32)) hx hb dX1_doJumpToSubroutine_34 (by decide) ?_
      refine lv_ishr hx hb dX1_doJumpToSubroutine_36 ?_
      refine lv_bipush (v := (7 : Int32)) hx hb dX1_doJumpToSubroutine_37 (by decide) ?_
      refine lv_iand hx hb dX1_doJumpToSubroutine_39 ?_
      refine lv_istore (lv' := [(4, .int ((a1 >>> ((6 : Int32) &&& 31)) &&& (7 : Int32))), (3, .int r4.1), (2, .int r1.1), (0, .ref o), (1, .int a1)]) hx hb dX1_doJumpToSubroutine_40 hl (by decide) rfl (fun ls hl => ?_)
      refine lv_aload_n hx hb dX1_doJumpToSubroutine_42 rfl (lv_at hl 3 rfl) ?_
      refine va_get (D := D) (ci := 1) (v := .ref aw) (C := RX1) (T := TX1) (N := 7) hx hb hts hin0 hown hK hP 0 rfl rfl 0 (by decide) (hw w_f_X1_9) (fun _ h9 => h9) rfl dX1_doJumpToSubroutine_43 ?_
      refine lv_iload_n hx hb dX1_doJumpToSubroutine_46 rfl (lv_at hl 1 rfl) ?_
      refine lv_iconst (v := (1 : Int32)) hx hb dX1_doJumpToSubroutine_47 (by decide) ?_
      refine lv_ishr hx hb dX1_doJumpToSubroutine_48 ?_
      refine lv_aload_n hx hb dX1_doJumpToSubroutine_49 rfl (lv_at hl 3 rfl) ?_
      refine va_get (D := D) (ci := 1) (v := .ref ar) (C := RX1) (T := TX1) (N := 7) hx hb hts hin0 hown hK hP 0 rfl rfl 1 (by decide) (hw w_f_X1_13) (fun _ h9 => h9) rfl dX1_doJumpToSubroutine_50 ?_
      refine lv_iload hx hb dX1_doJumpToSubroutine_53 (lv_at hl 0 rfl) ?_
      obtain ⟨b9, ht⟩ := oi_some ht
      refine va_iald hx hb hK hP 2 0 rfl rfl (ixk_in b9) dX1_doJumpToSubroutine_55 ?_
      obtain ⟨b10, ht⟩ := oi_some ht
      refine va_iast hx hb hK hP hD hS 1 0 rfl rfl (ixk_in b10) dX1_doJumpToSubroutine_56 (fun H locs hP hD hS => ?_)
      have hP : va_P D vwCl (clA o aw ar ak kI ((upd r6.2.1 (r4.1 >>> ((1 : Int32) &&& 31)).toNatClampNeg (r6.2.2.1 ((a1 >>> ((6 : Int32) &&& 31)) &&& (7 : Int32)).toNatClampNeg)), r6.2.2.1, r6.2.2.2.1, r6.2.2.2.2.1, r6.2.2.2.2.2.1, r6.2.2.2.2.2.2.1, r6.2.2.2.2.2.2.2)) H := hP
      have hD : va_D A (clA o aw ar ak kI ((upd r6.2.1 (r4.1 >>> ((1 : Int32) &&& 31)).toNatClampNeg (r6.2.2.1 ((a1 >>> ((6 : Int32) &&& 31)) &&& (7 : Int32)).toNatClampNeg)), r6.2.2.1, r6.2.2.2.1, r6.2.2.2.2.1, r6.2.2.2.2.2.1, r6.2.2.2.2.2.2.1, r6.2.2.2.2.2.2.2)) := hD
      refine lv_aload_n hx hb dX1_doJumpToSubroutine_57 rfl (lv_at hl 3 rfl) ?_
      refine va_get (D := D) (ci := 1) (v := .ref ar) (C := RX1) (T := TX1) (N := 7) hx hb hts hin0 hown hK hP 0 rfl rfl 1 (by decide) (hw w_f_X1_13) (fun _ h9 => h9) rfl dX1_doJumpToSubroutine_58 ?_
      refine lv_iload hx hb dX1_doJumpToSubroutine_61 (lv_at hl 0 rfl) ?_
      refine lv_aload_n hx hb dX1_doJumpToSubroutine_63 rfl (lv_at hl 3 rfl) ?_
      refine va_get (D := D) (ci := 1) (v := .ref ar) (C := RX1) (T := TX1) (N := 7) hx hb hts hin0 hown hK hP 0 rfl rfl 1 (by decide) (hw w_f_X1_13) (fun _ h9 => h9) rfl dX1_doJumpToSubroutine_64 ?_
      refine lv_bipush (v := (7 : Int32)) hx hb dX1_doJumpToSubroutine_67 (by decide) ?_
      obtain ⟨b11, ht⟩ := oi_some ht
      refine va_iald hx hb hK hP 2 0 rfl rfl (ixk_in b11) dX1_doJumpToSubroutine_69 ?_
      obtain ⟨b12, ht⟩ := oi_some ht
      refine va_iast hx hb hK hP hD hS 2 0 rfl rfl (ixk_in b12) dX1_doJumpToSubroutine_70 (fun H locs hP hD hS => ?_)
      have hP : va_P D vwCl (clA o aw ar ak kI ((upd r6.2.1 (r4.1 >>> ((1 : Int32) &&& 31)).toNatClampNeg (r6.2.2.1 ((a1 >>> ((6 : Int32) &&& 31)) &&& (7 : Int32)).toNatClampNeg)), (upd r6.2.2.1 ((a1 >>> ((6 : Int32) &&& 31)) &&& (7 : Int32)).toNatClampNeg (r6.2.2.1 (7 : Int32).toNatClampNeg)), r6.2.2.2.1, r6.2.2.2.2.1, r6.2.2.2.2.2.1, r6.2.2.2.2.2.2.1, r6.2.2.2.2.2.2.2)) H := hP
      have hD : va_D A (clA o aw ar ak kI ((upd r6.2.1 (r4.1 >>> ((1 : Int32) &&& 31)).toNatClampNeg (r6.2.2.1 ((a1 >>> ((6 : Int32) &&& 31)) &&& (7 : Int32)).toNatClampNeg)), (upd r6.2.2.1 ((a1 >>> ((6 : Int32) &&& 31)) &&& (7 : Int32)).toNatClampNeg (r6.2.2.1 (7 : Int32).toNatClampNeg)), r6.2.2.2.1, r6.2.2.2.2.1, r6.2.2.2.2.2.1, r6.2.2.2.2.2.2.1, r6.2.2.2.2.2.2.2)) := hD
      refine lv_aload_n hx hb dX1_doJumpToSubroutine_71 rfl (lv_at hl 3 rfl) ?_
      refine va_get (D := D) (ci := 1) (v := .ref ar) (C := RX1) (T := TX1) (N := 7) hx hb hts hin0 hown hK hP 0 rfl rfl 1 (by decide) (hw w_f_X1_13) (fun _ h9 => h9) rfl dX1_doJumpToSubroutine_72 ?_
      refine lv_bipush (v := (7 : Int32)) hx hb dX1_doJumpToSubroutine_75 (by decide) ?_
      refine lv_iload_n hx hb dX1_doJumpToSubroutine_77 rfl (lv_at hl 2 rfl) ?_
      obtain ⟨b13, ht⟩ := oi_some ht
      refine va_iast hx hb hK hP hD hS 2 0 rfl rfl (ixk_in b13) dX1_doJumpToSubroutine_78 (fun H locs hP hD hS => ?_)
      have hP : va_P D vwCl (clA o aw ar ak kI ((upd r6.2.1 (r4.1 >>> ((1 : Int32) &&& 31)).toNatClampNeg (r6.2.2.1 ((a1 >>> ((6 : Int32) &&& 31)) &&& (7 : Int32)).toNatClampNeg)), (upd (upd r6.2.2.1 ((a1 >>> ((6 : Int32) &&& 31)) &&& (7 : Int32)).toNatClampNeg (r6.2.2.1 (7 : Int32).toNatClampNeg)) (7 : Int32).toNatClampNeg r1.1), r6.2.2.2.1, r6.2.2.2.2.1, r6.2.2.2.2.2.1, r6.2.2.2.2.2.2.1, r6.2.2.2.2.2.2.2)) H := hP
      have hD : va_D A (clA o aw ar ak kI ((upd r6.2.1 (r4.1 >>> ((1 : Int32) &&& 31)).toNatClampNeg (r6.2.2.1 ((a1 >>> ((6 : Int32) &&& 31)) &&& (7 : Int32)).toNatClampNeg)), (upd (upd r6.2.2.1 ((a1 >>> ((6 : Int32) &&& 31)) &&& (7 : Int32)).toNatClampNeg (r6.2.2.1 (7 : Int32).toNatClampNeg)) (7 : Int32).toNatClampNeg r1.1), r6.2.2.2.1, r6.2.2.2.2.1, r6.2.2.2.2.2.1, r6.2.2.2.2.2.2.1, r6.2.2.2.2.2.2.2)) := hD
      refine lv_aload_n hx hb dX1_doJumpToSubroutine_79 rfl (lv_at hl 3 rfl) ?_
      refine lv_dup hx hb dX1_doJumpToSubroutine_80 rfl ?_
      refine va_get (D := D) (ci := 1) (v := .int r6.2.2.2.2.2.1) (C := RX1) (T := TX1) (N := 7) hx hb hts hin0 hown hK hP 0 rfl rfl 5 (by decide) (hw w_f_X1_31) (fun _ h9 => h9) rfl dX1_doJumpToSubroutine_81 ?_
      refine lv_bipush (v := (6 : Int32)) hx hb dX1_doJumpToSubroutine_84 (by decide) ?_
      refine lv_iadd hx hb dX1_doJumpToSubroutine_86 ?_
      refine va_put (D := D) (ci := 1) (v := .int (r6.2.2.2.2.2.1 + (6 : Int32))) (ty := .int) (C := RX1) (T := TX1) (N := 7) hx hb hts hin0 tyX1 tyX1_ok nmX1 hown hK hP hD hS 0 rfl rfl 5 (by decide) (hw w_f_X1_31) (fun _ h9 => h9) rfl (by decide +kernel) rfl rfl (Nat.le_of_ble_eq_true rfl) dX1_doJumpToSubroutine_87 (fun H locs hP hD hS => ?_)
      have hP : va_P D vwCl (clA o aw ar ak kI ((upd r6.2.1 (r4.1 >>> ((1 : Int32) &&& 31)).toNatClampNeg (r6.2.2.1 ((a1 >>> ((6 : Int32) &&& 31)) &&& (7 : Int32)).toNatClampNeg)), (upd (upd r6.2.2.1 ((a1 >>> ((6 : Int32) &&& 31)) &&& (7 : Int32)).toNatClampNeg (r6.2.2.1 (7 : Int32).toNatClampNeg)) (7 : Int32).toNatClampNeg r1.1), r6.2.2.2.1, r6.2.2.2.2.1, (r6.2.2.2.2.2.1 + (6 : Int32)), r6.2.2.2.2.2.2.1, r6.2.2.2.2.2.2.2)) H := hP
      have hD : va_D A (clA o aw ar ak kI ((upd r6.2.1 (r4.1 >>> ((1 : Int32) &&& 31)).toNatClampNeg (r6.2.2.1 ((a1 >>> ((6 : Int32) &&& 31)) &&& (7 : Int32)).toNatClampNeg)), (upd (upd r6.2.2.1 ((a1 >>> ((6 : Int32) &&& 31)) &&& (7 : Int32)).toNatClampNeg (r6.2.2.1 (7 : Int32).toNatClampNeg)) (7 : Int32).toNatClampNeg r1.1), r6.2.2.2.1, r6.2.2.2.2.1, (r6.2.2.2.2.2.1 + (6 : Int32)), r6.2.2.2.2.2.2.1, r6.2.2.2.2.2.2.2)) := hD
      have e9 := Option.some.inj ht
      subst hQ
      exact W.vret hx hb hr (fun t ht9 hW => ⟨⟨((upd r6.2.1 (r4.1 >>> ((1 : Int32) &&& 31)).toNatClampNeg (r6.2.2.1 ((a1 >>> ((6 : Int32) &&& 31)) &&& (7 : Int32)).toNatClampNeg)), (upd (upd r6.2.2.1 ((a1 >>> ((6 : Int32) &&& 31)) &&& (7 : Int32)).toNatClampNeg (r6.2.2.1 (7 : Int32).toNatClampNeg)) (7 : Int32).toNatClampNeg r1.1), r6.2.2.2.1, r6.2.2.2.2.1, (r6.2.2.2.2.2.1 + (6 : Int32)), r6.2.2.2.2.2.2.1, r6.2.2.2.2.2.2.2), rfl, pr2 e9, ⟨by rw [ht9]; exact hP, va_K.moved hW.alike hK, hD⟩⟩, hS.F ht9⟩) hS.2.2 dX1_doJumpToSubroutine_90
    · have ht := (if_pos g8).symm.trans ht
      have e9 := Option.some.inj ht
      subst hQ
      exact W.vret hx hb hr (fun t ht9 hW => ⟨⟨r6.2, rfl, pr2 e9, ⟨by rw [ht9]; exact hP, va_K.moved hW.alike hK, hD⟩⟩, hS.F ht9⟩) hS.2.2 dX1_doJumpToSubroutine_32
  · have ht := (if_pos g3).symm.trans ht
    have e9 := Option.some.inj ht
    subst hQ
    exact W.vret hx hb hr (fun t ht9 hW => ⟨⟨r1.2, rfl, pr2 e9, ⟨by rw [ht9]; exact hP, va_K.moved hW.alike hK, hD⟩⟩, hS.F ht9⟩) hS.2.2 dX1_doJumpToSubroutine_14
def fnA_shiftOf (a1 : Int32) : Option (Int32 × Unit) := some (((a1 &&& (1 : Int32)) * (8 : Int32)), ())
set_option maxRecDepth 100000 in
set_option maxHeartbeats 4000000 in
theorem ctA_shiftOf (l : Launch) (sz : Nat) (a1 : Int32) (tg : Int32 × Unit) (ht : fnA_shiftOf a1 = some tg) : Met l yX1_shiftOf (Cond.code yX1_shiftOf cX1_shiftOf 1 (some .int) :: wAll) ({ frames := 0, cells := 0, slots := 0, locals := 0 } : Room) (va_Pc [.int a1] (prS sz)) (va_Qi (fun (x : Int32) (v : Unit) => x = tg.1 ∧ v = tg.2) poS (va_A [] sz)) 0 0 (va_A [] sz) := by
  refine mOfW (cc := cX1_shiftOf) (maxL := 1) (ret := (some .int)) (by decide) rfl ?_
  intro p e s m args below meth c s₁ Q R hQ hR B hml hv
  obtain ⟨rfl, hsz⟩ := hv
  have hx := B.exec
  have hb := B.bytes
  have hr := B.returns
  have hts := atoms_spec (ws := Cond.code yX1_shiftOf cX1_shiftOf 1 (some .int) :: wAll) B.pre
  have hw : ∀ {w : Cond}, w ∈ wAll → w.before _ s = true := fun {w} h => hts w (List.mem_cons_of_mem _ h)
  have hown : s.vm.findClass RX1 = some m.cls := findClass_of_methodNamed B.named
  have hlocks := B.notSynchronized
  have hRf : 0 ≤ R.frames := by rw [hR]; exact Nat.le_refl _
  have hRl : 0 ≤ R.locals := by rw [hR]; exact Nat.le_refl _
  unfold prS at hsz
  subst hsz
  generalize hAe : va_A [] s.heap.size = A at hQ
  have hA : ∀ q : Nat, s.heap.size ≤ q → A q := fun q h => by rw [← hAe]; exact Or.inr h
  have hl := lv_entry ([.int a1]) (n := 1) (Nat.le_of_ble_eq_true rfl)
  rw [lg_entry_eq]
  generalize (lg_sl ([.int a1]) ++ List.replicate (1 - (lg_sl ([.int a1])).length) Slot.unset).toArray = ls at hl ⊢
  have hl : lv_has ls 1 [(0, .int a1)] := hl
  unfold fnA_shiftOf at ht
  obtain ⟨H, hHe⟩ : ∃ H : Heap, H = s.heap := ⟨_, rfl⟩
  have hS : va_S A s.heap H [] := by rw [hHe]; exact va_S.rf
  rw [← hHe]
  refine lv_iload_n hx hb dX1_shiftOf_0 rfl (lv_at hl 0 rfl) ?_
  refine lv_iconst (v := (1 : Int32)) hx hb dX1_shiftOf_1 (by decide) ?_
  refine lv_iand hx hb dX1_shiftOf_2 ?_
  refine lv_bipush (v := (8 : Int32)) hx hb dX1_shiftOf_3 (by decide) ?_
  refine lv_imul hx hb dX1_shiftOf_5 ?_
  have e9 := Option.some.inj ht
  subst hQ
  exact W.iret (v := ((a1 &&& (1 : Int32)) * (8 : Int32))) hx hb hr (fun t ht9 hW => ⟨⟨((a1 &&& (1 : Int32)) * (8 : Int32)), (), rfl, ⟨pr1 e9, pr2 e9⟩, trivial⟩, hS.F ht9⟩) hS.2.2 dX1_shiftOf_6
def fnA_putResult_111 (u : sA) : Option (Unit × sA) := some ((), u)
def fnA_putResult_43 (u : sA) (y0 : Int32) (y1 : Int32) : Option (Unit × sA) := if ixk y1 8 then (fnA_putResult_111 (u.1, (upd u.2.1 y1.toNatClampNeg y0), u.2.2.1, u.2.2.2.1, u.2.2.2.2.1, u.2.2.2.2.2.1, u.2.2.2.2.2.2)) else none
def fnA_putResult (u : sA) (a1 : Int32) (a2 : Int32) (a3 : Int32) : Option (Unit × sA) := if u.2.2.2.2.2.1 = (-1 : Int32) then (if a3 = 0 then (fnA_putResult_43 (u.1, u.2.1, u.2.2.1, u.2.2.2.1, (u.2.2.2.2.1 + (1 : Int32)), u.2.2.2.2.2.1, u.2.2.2.2.2.2) a2 a1) else (if ixk a1 8 then (fnA_putResult_43 (u.1, u.2.1, u.2.2.1, u.2.2.2.1, (u.2.2.2.2.1 + (1 : Int32)), u.2.2.2.2.2.1, u.2.2.2.2.2.2) (((u.2.1 a1.toNatClampNeg) &&& (-256 : Int32)) ||| a2) a1) else none)) else (if a3 = 0 then (if ixk (u.2.2.2.2.2.1 >>> ((1 : Int32) &&& 31)) 2048 then (fnA_putResult_111 ((upd u.1 (u.2.2.2.2.2.1 >>> ((1 : Int32) &&& 31)).toNatClampNeg a2), u.2.1, u.2.2.1, u.2.2.2.1, (u.2.2.2.2.1 + (1 : Int32)), u.2.2.2.2.2.1, u.2.2.2.2.2.2)) else none) else ((fnA_shiftOf u.2.2.2.2.2.1).bind (fun r4 => if ixk (u.2.2.2.2.2.1 >>> ((1 : Int32) &&& 31)) 2048 then (if ixk (u.2.2.2.2.2.1 >>> ((1 : Int32) &&& 31)) 2048 then (fnA_putResult_111 ((upd u.1 (u.2.2.2.2.2.1 >>> ((1 : Int32) &&& 31)).toNatClampNeg (((u.1 (u.2.2.2.2.2.1 >>> ((1 : Int32) &&& 31)).toNatClampNeg) &&& (((255 : Int32) <<< (r4.1 &&& 31)) ^^^ (-1 : Int32))) ||| (a2 <<< (r4.1 &&& 31)))), u.2.1, u.2.2.1, u.2.2.2.1, (u.2.2.2.2.1 + (1 : Int32)), u.2.2.2.2.2.1, u.2.2.2.2.2.2)) else none) else none)))
set_option maxRecDepth 100000 in
set_option maxHeartbeats 4000000 in
theorem ctA_putResult (l : Launch) (D : va_G) (kI : ClassId) (tb : Nat) (o aw ar ak : Nat) (sz : Nat) (u : sA) (a1 : Int32) (a2 : Int32) (a3 : Int32) (tg : Unit × sA) (ht : fnA_putResult u a1 a2 a3 = some tg) : Met l yX1_putResult (Cond.code yX1_putResult cX1_putResult 5 none :: wAll) ({ frames := 1, cells := 0, slots := 0, locals := 20 } : Room) (va_Pc [.ref o, .int a1, .int a2, .int a3] (prA D kI tb o aw ar ak sz u)) (va_Qv (fun (v : sA) => v = tg.2) (poG D kI (clA o aw ar ak kI) (va_A (clA o aw ar ak kI u) sz)) (va_A (clA o aw ar ak kI u) sz)) 0 0 (va_A (clA o aw ar ak kI u) sz) := by
  refine mOfW (cc := cX1_putResult) (maxL := 5) (ret := none) (by decide) rfl ?_
  intro p e s m args below meth c s₁ Q R hQ hR B hml hv
  obtain ⟨rfl, hsz, hP, hK, hD0, hZ⟩ := hv
  have hx := B.exec
  have hb := B.bytes
  have hr := B.returns
  have hts := atoms_spec (ws := Cond.code yX1_putResult cX1_putResult 5 none :: wAll) B.pre
  have hw : ∀ {w : Cond}, w ∈ wAll → w.before _ s = true := fun {w} h => hts w (List.mem_cons_of_mem _ h)
  have hown : s.vm.findClass RX1 = some m.cls := findClass_of_methodNamed B.named
  have hlocks := B.notSynchronized
  have hRf : 1 ≤ R.frames := by rw [hR]; exact Nat.le_refl _
  have hRl : 20 ≤ R.locals := by rw [hR]; exact Nat.le_refl _
  subst hsz
  have hD := hD0.self (sz := s.heap.size)
  generalize hAe : va_A (clA o aw ar ak kI u) s.heap.size = A at hD hZ hQ
  have hA : ∀ q : Nat, s.heap.size ≤ q → A q := fun q h => by rw [← hAe]; exact Or.inr h
  have hl := lv_entry ([.ref o, .int a1, .int a2, .int a3]) (n := 5) (Nat.le_of_ble_eq_true rfl)
  rw [lg_entry_eq]
  generalize (lg_sl ([.ref o, .int a1, .int a2, .int a3]) ++ List.replicate (5 - (lg_sl ([.ref o, .int a1, .int a2, .int a3])).length) Slot.unset).toArray = ls at hl ⊢
  have hl : lv_has ls 5 [(0, .ref o), (1, .int a1), (2, .int a2), (3, .int a3)] := hl
  have hin0 : ∀ w ∈ u_ws RX1 TX1 7, w ∈ (Cond.code yX1_putResult cX1_putResult 5 none :: wAll) := fun w h => List.mem_cons_of_mem _ (w_flX1 w h)
  have K111 : ∀ (H : Heap) (locs : List Loc) (ls : Array Slot) (u : sA) , va_P D vwCl (clA o aw ar ak kI u) H → va_D A (clA o aw ar ak kI u) → va_S A s.heap H locs → lv_has ls 5 [] → fnA_putResult_111 u  = some tg → W p l e R s m ([.ref o, .int a1, .int a2, .int a3] : List Value).toArray below meth c H locs 0 0 Q (F0 m 111 ls []) := by
    intro H locs ls u  hP hD hS hl ht
    unfold fnA_putResult_111 at ht
    have e9 := Option.some.inj ht
    subst hQ
    exact W.vret hx hb hr (fun t ht9 hW => ⟨⟨u, rfl, pr2 e9, ⟨by rw [ht9]; exact hP, va_K.moved hW.alike hK, hD⟩⟩, hS.F ht9⟩) hS.2.2 dX1_putResult_111
  have K43 : ∀ (H : Heap) (locs : List Loc) (ls : Array Slot) (u : sA) (y0 : Int32) (y1 : Int32) , va_P D vwCl (clA o aw ar ak kI u) H → va_D A (clA o aw ar ak kI u) → va_S A s.heap H locs → lv_has ls 5 [] → fnA_putResult_43 u y0 y1 = some tg → W p l e R s m ([.ref o, .int a1, .int a2, .int a3] : List Value).toArray below meth c H locs 0 0 Q (F0 m 43 ls [.int y0, .int y1, .ref ar]) := by
    intro H locs ls u y0 y1 hP hD hS hl ht
    unfold fnA_putResult_43 at ht
    obtain ⟨b10, ht⟩ := oi_some ht
    refine va_iast hx hb hK hP hD hS 2 0 rfl rfl (ixk_in b10) dX1_putResult_43 (fun H locs hP hD hS => ?_)
    have hP : va_P D vwCl (clA o aw ar ak kI (u.1, (upd u.2.1 y1.toNatClampNeg y0), u.2.2.1, u.2.2.2.1, u.2.2.2.2.1, u.2.2.2.2.2.1, u.2.2.2.2.2.2)) H := hP
    have hD : va_D A (clA o aw ar ak kI (u.1, (upd u.2.1 y1.toNatClampNeg y0), u.2.2.1, u.2.2.2.1, u.2.2.2.2.1, u.2.2.2.2.2.1, u.2.2.2.2.2.2)) := hD
    refine lv_goto (tgt := 111) hx hb dX1_putResult_44 (by decide) ?_
    exact K111 _ _ _ (u.1, (upd u.2.1 y1.toNatClampNeg y0), u.2.2.1, u.2.2.2.1, u.2.2.2.2.1, u.2.2.2.2.2.1, u.2.2.2.2.2.2) hP hD hS (lv_sub hl [] rfl) ht
  unfold fnA_putResult at ht
  obtain ⟨H, hHe⟩ : ∃ H : Heap, H = s.heap := ⟨_, rfl⟩
  have hP : va_P D vwCl (clA o aw ar ak kI u) H := by rw [hHe]; exact hP
  have hS : va_S A s.heap H [] := by rw [hHe]; exact va_S.rf
  rw [← hHe]
  refine lv_aload_n hx hb dX1_putResult_0 rfl (lv_at hl 0 rfl) ?_
  refine lv_dup hx hb dX1_putResult_1 rfl ?_
  refine va_get (D := D) (ci := 1) (v := .int u.2.2.2.2.1) (C := RX1) (T := TX1) (N := 7) hx hb hts hin0 hown hK hP 0 rfl rfl 5 (by decide) (hw w_f_X1_31) (fun _ h9 => h9) rfl dX1_putResult_2 ?_
  refine lv_iconst (v := (1 : Int32)) hx hb dX1_putResult_5 (by decide) ?_
  refine lv_iadd hx hb dX1_putResult_6 ?_
  refine va_put (D := D) (ci := 1) (v := .int (u.2.2.2.2.1 + (1 : Int32))) (ty := .int) (C := RX1) (T := TX1) (N := 7) hx hb hts hin0 tyX1 tyX1_ok nmX1 hown hK hP hD hS 0 rfl rfl 5 (by decide) (hw w_f_X1_31) (fun _ h9 => h9) rfl (by decide +kernel) rfl rfl (Nat.le_of_ble_eq_true rfl) dX1_putResult_7 (fun H locs hP hD hS => ?_)
  have hP : va_P D vwCl (clA o aw ar ak kI (u.1, u.2.1, u.2.2.1, u.2.2.2.1, (u.2.2.2.2.1 + (1 : Int32)), u.2.2.2.2.2.1, u.2.2.2.2.2.2)) H := hP
  have hD : va_D A (clA o aw ar ak kI (u.1, u.2.1, u.2.2.1, u.2.2.2.1, (u.2.2.2.2.1 + (1 : Int32)), u.2.2.2.2.2.1, u.2.2.2.2.2.2)) := hD
  refine lv_aload_n hx hb dX1_putResult_10 rfl (lv_at hl 0 rfl) ?_
  refine va_get (D := D) (ci := 1) (v := .int u.2.2.2.2.2.1) (C := RX1) (T := TX1) (N := 7) hx hb hts hin0 hown hK hP 0 rfl rfl 6 (by decide) (hw w_f_X1_34) (fun _ h9 => h9) rfl dX1_putResult_11 ?_
  refine lv_iconst (v := (-1 : Int32)) hx hb dX1_putResult_14 (by decide) ?_
  refine lv_icmp_ne (tgt := 47) hx hb dX1_putResult_15 (by decide) (fun g1 => ?_) (fun g1 => ?_)
  · have ht := (if_neg g1).symm.trans ht
    refine lv_iload_n hx hb dX1_putResult_47 rfl (lv_at hl 3 rfl) ?_
    refine lv_if_eq (tgt := 99) hx hb dX1_putResult_48 (by decide) (fun g2 => ?_) (fun g2 => ?_)
    · have ht := (if_pos g2).symm.trans ht
      refine lv_aload_n hx hb dX1_putResult_99 rfl (lv_at hl 0 rfl) ?_
      refine va_get (D := D) (ci := 1) (v := .ref aw) (C := RX1) (T := TX1) (N := 7) hx hb hts hin0 hown hK hP 0 rfl rfl 0 (by decide) (hw w_f_X1_9) (fun _ h9 => h9) rfl dX1_putResult_100 ?_
      refine lv_aload_n hx hb dX1_putResult_103 rfl (lv_at hl 0 rfl) ?_
      refine va_get (D := D) (ci := 1) (v := .int u.2.2.2.2.2.1) (C := RX1) (T := TX1) (N := 7) hx hb hts hin0 hown hK hP 0 rfl rfl 6 (by decide) (hw w_f_X1_34) (fun _ h9 => h9) rfl dX1_putResult_104 ?_
      refine lv_iconst (v := (1 : Int32)) hx hb dX1_putResult_107 (by decide) ?_
      refine lv_ishr hx hb dX1_putResult_108 ?_
      refine lv_iload_n hx hb dX1_putResult_109 rfl (lv_at hl 2 rfl) ?_
      obtain ⟨b3, ht⟩ := oi_some ht
      refine va_iast hx hb hK hP hD hS 1 0 rfl rfl (ixk_in b3) dX1_putResult_110 (fun H locs hP hD hS => ?_)
      have hP : va_P D vwCl (clA o aw ar ak kI ((upd u.1 (u.2.2.2.2.2.1 >>> ((1 : Int32) &&& 31)).toNatClampNeg a2), u.2.1, u.2.2.1, u.2.2.2.1, (u.2.2.2.2.1 + (1 : Int32)), u.2.2.2.2.2.1, u.2.2.2.2.2.2)) H := hP
      have hD : va_D A (clA o aw ar ak kI ((upd u.1 (u.2.2.2.2.2.1 >>> ((1 : Int32) &&& 31)).toNatClampNeg a2), u.2.1, u.2.2.1, u.2.2.2.1, (u.2.2.2.2.1 + (1 : Int32)), u.2.2.2.2.2.1, u.2.2.2.2.2.2)) := hD
      exact K111 _ _ _ ((upd u.1 (u.2.2.2.2.2.1 >>> ((1 : Int32) &&& 31)).toNatClampNeg a2), u.2.1, u.2.2.1, u.2.2.2.1, (u.2.2.2.2.1 + (1 : Int32)), u.2.2.2.2.2.1, u.2.2.2.2.2.2) hP hD hS (lv_sub hl [] rfl) ht
    · have ht := (if_neg g2).symm.trans ht
      refine lv_aload_n hx hb dX1_putResult_51 rfl (lv_at hl 0 rfl) ?_
      refine va_get (D := D) (ci := 1) (v := .int u.2.2.2.2.2.1) (C := RX1) (T := TX1) (N := 7) hx hb hts hin0 hown hK hP 0 rfl rfl 6 (by decide) (hw w_f_X1_34) (fun _ h9 => h9) rfl dX1_putResult_52 ?_
      obtain ⟨r4, h5, ht⟩ := ob_some ht
      refine kS_i (va_runS (As := [.int u.2.2.2.2.2.1]) (rest := []) ⟨hx, hb, hml, hown, hts⟩ (ctA_shiftOf l H.size u.2.2.2.2.2.1 r4 h5) (cwS 1 hts (gS w_m_X1_152 w_sm_yX1_shiftOf w_init_MicroMill w_co_yX1_shiftOf) rfl rfl rfl (by decide +kernel) ⟨Nat.le_trans (Nat.le_of_ble_eq_true rfl) hRf, Nat.le_trans (Nat.le_of_ble_eq_true rfl) hRl⟩) (preSt _) rfl rfl hl.1 rfl (lv_room (Nat.le_of_ble_eq_true rfl)) dX1_putResult_55 ⟨Nat.zero_le _, Nat.zero_le _⟩) hP hS hA (fun H locs hP hS => ?_)
      refine lv_istore (lv' := [(4, .int r4.1), (0, .ref o), (1, .int a1), (2, .int a2), (3, .int a3)]) hx hb dX1_putResult_58 hl (by decide) rfl (fun ls hl => ?_)
      refine lv_aload_n hx hb dX1_putResult_60 rfl (lv_at hl 1 rfl) ?_
      refine va_get (D := D) (ci := 1) (v := .ref aw) (C := RX1) (T := TX1) (N := 7) hx hb hts hin0 hown hK hP 0 rfl rfl 0 (by decide) (hw w_f_X1_9) (fun _ h9 => h9) rfl dX1_putResult_61 ?_
      refine lv_aload_n hx hb dX1_putResult_64 rfl (lv_at hl 1 rfl) ?_
      refine va_get (D := D) (ci := 1) (v := .int u.2.2.2.2.2.1) (C := RX1) (T := TX1) (N := 7) hx hb hts hin0 hown hK hP 0 rfl rfl 6 (by decide) (hw w_f_X1_34) (fun _ h9 => h9) rfl dX1_putResult_65 ?_
      refine lv_iconst (v := (1 : Int32)) hx hb dX1_putResult_68 (by decide) ?_
      refine lv_ishr hx hb dX1_putResult_69 ?_
      refine lv_aload_n hx hb dX1_putResult_70 rfl (lv_at hl 1 rfl) ?_
      refine va_get (D := D) (ci := 1) (v := .ref aw) (C := RX1) (T := TX1) (N := 7) hx hb hts hin0 hown hK hP 0 rfl rfl 0 (by decide) (hw w_f_X1_9) (fun _ h9 => h9) rfl dX1_putResult_71 ?_
      refine lv_aload_n hx hb dX1_putResult_74 rfl (lv_at hl 1 rfl) ?_
      refine va_get (D := D) (ci := 1) (v := .int u.2.2.2.2.2.1) (C := RX1) (T := TX1) (N := 7) hx hb hts hin0 hown hK hP 0 rfl rfl 6 (by decide) (hw w_f_X1_34) (fun _ h9 => h9) rfl dX1_putResult_75 ?_
      refine lv_iconst (v := (1 : Int32)) hx hb dX1_putResult_78 (by decide) ?_
      refine lv_ishr hx hb dX1_putResult_79 ?_
      obtain ⟨b6, ht⟩ := oi_some ht
      refine va_iald hx hb hK hP 1 0 rfl rfl (ixk_in b6) dX1_putResult_80 ?_
      refine lv_sipush (v := (255 : Int32)) hx hb dX1_putResult_81 (by decide) ?_
      refine lv_iload hx hb dX1_putResult_84 (lv_at hl 0 rfl) ?_
      refine lv_ishl hx hb dX1_putResult_86 ?_
      refine lv_iconst (v := (-1 : Int32)) hx hb dX1_putResult_87 (by decide) ?_
      refine lv_ixor hx hb dX1_putResult_88 ?_
      refine lv_iand hx hb dX1_putResult_89 ?_
      refine lv_iload_n hx hb dX1_putResult_90 rfl (lv_at hl 3 rfl) ?_
      refine lv_iload hx hb dX1_putResult_91 (lv_at hl 0 rfl) ?_
      refine lv_ishl hx hb dX1_putResult_93 ?_
      refine lv_ior hx hb dX1_putResult_94 ?_
      obtain ⟨b7, ht⟩ := oi_some ht
      refine va_iast hx hb hK hP hD hS 1 0 rfl rfl (ixk_in b7) dX1_putResult_95 (fun H locs hP hD hS => ?_)
      have hP : va_P D vwCl (clA o aw ar ak kI ((upd u.1 (u.2.2.2.2.2.1 >>> ((1 : Int32) &&& 31)).toNatClampNeg (((u.1 (u.2.2.2.2.2.1 >>> ((1 : Int32) &&& 31)).toNatClampNeg) &&& (((255 : Int32) <<< (r4.1 &&& 31)) ^^^ (-1 : Int32))) ||| (a2 <<< (r4.1 &&& 31)))), u.2.1, u.2.2.1, u.2.2.2.1, (u.2.2.2.2.1 + (1 : Int32)), u.2.2.2.2.2.1, u.2.2.2.2.2.2)) H := hP
      have hD : va_D A (clA o aw ar ak kI ((upd u.1 (u.2.2.2.2.2.1 >>> ((1 : Int32) &&& 31)).toNatClampNeg (((u.1 (u.2.2.2.2.2.1 >>> ((1 : Int32) &&& 31)).toNatClampNeg) &&& (((255 : Int32) <<< (r4.1 &&& 31)) ^^^ (-1 : Int32))) ||| (a2 <<< (r4.1 &&& 31)))), u.2.1, u.2.2.1, u.2.2.2.1, (u.2.2.2.2.1 + (1 : Int32)), u.2.2.2.2.2.1, u.2.2.2.2.2.2)) := hD
      refine lv_goto (tgt := 111) hx hb dX1_putResult_96 (by decide) ?_
      exact K111 _ _ _ ((upd u.1 (u.2.2.2.2.2.1 >>> ((1 : Int32) &&& 31)).toNatClampNeg (((u.1 (u.2.2.2.2.2.1 >>> ((1 : Int32) &&& 31)).toNatClampNeg) &&& (((255 : Int32) <<< (r4.1 &&& 31)) ^^^ (-1 : Int32))) ||| (a2 <<< (r4.1 &&& 31)))), u.2.1, u.2.2.1, u.2.2.2.1, (u.2.2.2.2.1 + (1 : Int32)), u.2.2.2.2.2.1, u.2.2.2.2.2.2) hP hD hS (lv_sub hl [] rfl) ht
  · have ht := (if_pos g1).symm.trans ht
    refine lv_aload_n hx hb dX1_putResult_18 rfl (lv_at hl 0 rfl) ?_
    refine va_get (D := D) (ci := 1) (v := .ref ar) (C := RX1) (T := TX1) (N := 7) hx hb hts hin0 hown hK hP 0 rfl rfl 1 (by decide) (hw w_f_X1_13) (fun _ h9 => h9) rfl dX1_putResult_19 ?_
    refine lv_iload_n hx hb dX1_putResult_22 rfl (lv_at hl 1 rfl) ?_
    refine lv_iload_n hx hb dX1_putResult_23 rfl (lv_at hl 3 rfl) ?_
    refine lv_if_eq (tgt := 42) hx hb dX1_putResult_24 (by decide) (fun g8 => ?_) (fun g8 => ?_)
    · have ht := (if_pos g8).symm.trans ht
      refine lv_iload_n hx hb dX1_putResult_42 rfl (lv_at hl 2 rfl) ?_
      exact K43 _ _ _ (u.1, u.2.1, u.2.2.1, u.2.2.2.1, (u.2.2.2.2.1 + (1 : Int32)), u.2.2.2.2.2.1, u.2.2.2.2.2.2) a2 a1 hP hD hS (lv_sub hl [] rfl) ht
    · have ht := (if_neg g8).symm.trans ht
      refine lv_aload_n hx hb dX1_putResult_27 rfl (lv_at hl 0 rfl) ?_
      refine va_get (D := D) (ci := 1) (v := .ref ar) (C := RX1) (T := TX1) (N := 7) hx hb hts hin0 hown hK hP 0 rfl rfl 1 (by decide) (hw w_f_X1_13) (fun _ h9 => h9) rfl dX1_putResult_28 ?_
      refine lv_iload_n hx hb dX1_putResult_31 rfl (lv_at hl 1 rfl) ?_
      obtain ⟨b9, ht⟩ := oi_some ht
      refine va_iald hx hb hK hP 2 0 rfl rfl (ixk_in b9) dX1_putResult_32 ?_
      refine lv_sipush (v := (-256 : Int32)) hx hb dX1_putResult_33 (by decide) ?_
      refine lv_iand hx hb dX1_putResult_36 ?_
      refine lv_iload_n hx hb dX1_putResult_37 rfl (lv_at hl 2 rfl) ?_
      refine lv_ior hx hb dX1_putResult_38 ?_
      refine lv_goto (tgt := 43) hx hb dX1_putResult_39 (by decide) ?_
      exact K43 _ _ _ (u.1, u.2.1, u.2.2.1, u.2.2.2.1, (u.2.2.2.2.1 + (1 : Int32)), u.2.2.2.2.2.1, u.2.2.2.2.2.2) (((u.2.1 a1.toNatClampNeg) &&& (-256 : Int32)) ||| a2) a1 hP hD hS (lv_sub hl [] rfl) ht
def fnA_readByte (u : sA) (a1 : Int32) : Option (Int32 × sA) := if a1 < (4096 : Int32) then (if ixk (a1 >>> ((1 : Int32) &&& 31)) 2048 then ((fnA_shiftOf a1).bind (fun r3 => some ((((u.1 (a1 >>> ((1 : Int32) &&& 31)).toNatClampNeg) >>> (r3.1 &&& 31)) &&& (255 : Int32)), u))) else none) else (some ((-1 : Int32), (u.1, u.2.1, (4 : Int32), u.2.2.2.1, u.2.2.2.2.1, u.2.2.2.2.2.1, u.2.2.2.2.2.2)))
set_option maxRecDepth 100000 in
set_option maxHeartbeats 4000000 in
theorem ctA_readByte (l : Launch) (D : va_G) (kI : ClassId) (tb : Nat) (o aw ar ak : Nat) (sz : Nat) (u : sA) (a1 : Int32) (tg : Int32 × sA) (ht : fnA_readByte u a1 = some tg) : Met l yX1_readByte (Cond.code yX1_readByte cX1_readByte 2 (some .int) :: wAll) ({ frames := 1, cells := 0, slots := 0, locals := 20 } : Room) (va_Pc [.ref o, .int a1] (prA D kI tb o aw ar ak sz u)) (va_Qi (fun (x : Int32) (v : sA) => x = tg.1 ∧ v = tg.2) (poG D kI (clA o aw ar ak kI) (va_A (clA o aw ar ak kI u) sz)) (va_A (clA o aw ar ak kI u) sz)) 0 0 (va_A (clA o aw ar ak kI u) sz) := by
  refine mOfW (cc := cX1_readByte) (maxL := 2) (ret := (some .int)) (by decide) rfl ?_
  intro p e s m args below meth c s₁ Q R hQ hR B hml hv
  obtain ⟨rfl, hsz, hP, hK, hD0, hZ⟩ := hv
  have hx := B.exec
  have hb := B.bytes
  have hr := B.returns
  have hts := atoms_spec (ws := Cond.code yX1_readByte cX1_readByte 2 (some .int) :: wAll) B.pre
  have hw : ∀ {w : Cond}, w ∈ wAll → w.before _ s = true := fun {w} h => hts w (List.mem_cons_of_mem _ h)
  have hown : s.vm.findClass RX1 = some m.cls := findClass_of_methodNamed B.named
  have hlocks := B.notSynchronized
  have hRf : 1 ≤ R.frames := by rw [hR]; exact Nat.le_refl _
  have hRl : 20 ≤ R.locals := by rw [hR]; exact Nat.le_refl _
  subst hsz
  have hD := hD0.self (sz := s.heap.size)
  generalize hAe : va_A (clA o aw ar ak kI u) s.heap.size = A at hD hZ hQ
  have hA : ∀ q : Nat, s.heap.size ≤ q → A q := fun q h => by rw [← hAe]; exact Or.inr h
  have hl := lv_entry ([.ref o, .int a1]) (n := 2) (Nat.le_of_ble_eq_true rfl)
  rw [lg_entry_eq]
  generalize (lg_sl ([.ref o, .int a1]) ++ List.replicate (2 - (lg_sl ([.ref o, .int a1])).length) Slot.unset).toArray = ls at hl ⊢
  have hl : lv_has ls 2 [(0, .ref o), (1, .int a1)] := hl
  have hin0 : ∀ w ∈ u_ws RX1 TX1 7, w ∈ (Cond.code yX1_readByte cX1_readByte 2 (some .int) :: wAll) := fun w h => List.mem_cons_of_mem _ (w_flX1 w h)
  unfold fnA_readByte at ht
  obtain ⟨H, hHe⟩ : ∃ H : Heap, H = s.heap := ⟨_, rfl⟩
  have hP : va_P D vwCl (clA o aw ar ak kI u) H := by rw [hHe]; exact hP
  have hS : va_S A s.heap H [] := by rw [hHe]; exact va_S.rf
  rw [← hHe]
  refine lv_iload_n hx hb dX1_readByte_0 rfl (lv_at hl 1 rfl) ?_
  refine lv_sipush (v := (4096 : Int32)) hx hb dX1_readByte_1 (by decide) ?_
  refine lv_icmp_lt (tgt := 14) hx hb dX1_readByte_4 (by decide) (fun g1 => ?_) (fun g1 => ?_)
  · have ht := (if_pos g1).symm.trans ht
    refine lv_aload_n hx hb dX1_readByte_14 rfl (lv_at hl 0 rfl) ?_
    refine va_get (D := D) (ci := 1) (v := .ref aw) (C := RX1) (T := TX1) (N := 7) hx hb hts hin0 hown hK hP 0 rfl rfl 0 (by decide) (hw w_f_X1_9) (fun _ h9 => h9) rfl dX1_readByte_15 ?_
    refine lv_iload_n hx hb dX1_readByte_18 rfl (lv_at hl 1 rfl) ?_
    refine lv_iconst (v := (1 : Int32)) hx hb dX1_readByte_19 (by decide) ?_
    refine lv_ishr hx hb dX1_readByte_20 ?_
    obtain ⟨b2, ht⟩ := oi_some ht
    refine va_iald hx hb hK hP 1 0 rfl rfl (ixk_in b2) dX1_readByte_21 ?_
    refine lv_iload_n hx hb dX1_readByte_22 rfl (lv_at hl 1 rfl) ?_
    obtain ⟨r3, h4, ht⟩ := ob_some ht
    refine kS_i (va_runS (As := [.int a1]) (rest := [.int (u.1 (a1 >>> ((1 : Int32) &&& 31)).toNatClampNeg)]) ⟨hx, hb, hml, hown, hts⟩ (ctA_shiftOf l H.size a1 r3 h4) (cwS 1 hts (gS w_m_X1_152 w_sm_yX1_shiftOf w_init_MicroMill w_co_yX1_shiftOf) rfl rfl rfl (by decide +kernel) ⟨Nat.le_trans (Nat.le_of_ble_eq_true rfl) hRf, Nat.le_trans (Nat.le_of_ble_eq_true rfl) hRl⟩) (preSt _) rfl rfl hl.1 rfl (lv_room (Nat.le_of_ble_eq_true rfl)) dX1_readByte_23 ⟨Nat.zero_le _, Nat.zero_le _⟩) hP hS hA (fun H locs hP hS => ?_)
    refine lv_ishr hx hb dX1_readByte_26 ?_
    refine lv_sipush (v := (255 : Int32)) hx hb dX1_readByte_27 (by decide) ?_
    refine lv_iand hx hb dX1_readByte_30 ?_
    have e9 := Option.some.inj ht
    subst hQ
    exact W.iret (v := (((u.1 (a1 >>> ((1 : Int32) &&& 31)).toNatClampNeg) >>> (r3.1 &&& 31)) &&& (255 : Int32))) hx hb hr (fun t ht9 hW => ⟨⟨(((u.1 (a1 >>> ((1 : Int32) &&& 31)).toNatClampNeg) >>> (r3.1 &&& 31)) &&& (255 : Int32)), u, rfl, ⟨pr1 e9, pr2 e9⟩, ⟨by rw [ht9]; exact hP, va_K.moved hW.alike hK, hD⟩⟩, hS.F ht9⟩) hS.2.2 dX1_readByte_31
  · have ht := (if_neg g1).symm.trans ht
    refine lv_aload_n hx hb dX1_readByte_7 rfl (lv_at hl 0 rfl) ?_
    refine lv_iconst (v := (4 : Int32)) hx hb dX1_readByte_8 (by decide) ?_
    refine va_put (D := D) (ci := 1) (v := .int (4 : Int32)) (ty := .int) (C := RX1) (T := TX1) (N := 7) hx hb hts hin0 tyX1 tyX1_ok nmX1 hown hK hP hD hS 0 rfl rfl 3 (by decide) (hw w_f_X1_23) (fun _ h9 => h9) rfl (by decide +kernel) rfl rfl (Nat.le_of_ble_eq_true rfl) dX1_readByte_9 (fun H locs hP hD hS => ?_)
    have hP : va_P D vwCl (clA o aw ar ak kI (u.1, u.2.1, (4 : Int32), u.2.2.2.1, u.2.2.2.2.1, u.2.2.2.2.2.1, u.2.2.2.2.2.2)) H := hP
    have hD : va_D A (clA o aw ar ak kI (u.1, u.2.1, (4 : Int32), u.2.2.2.1, u.2.2.2.2.1, u.2.2.2.2.2.1, u.2.2.2.2.2.2)) := hD
    refine lv_iconst (v := (-1 : Int32)) hx hb dX1_readByte_12 (by decide) ?_
    have e9 := Option.some.inj ht
    subst hQ
    exact W.iret (v := (-1 : Int32)) hx hb hr (fun t ht9 hW => ⟨⟨(-1 : Int32), (u.1, u.2.1, (4 : Int32), u.2.2.2.1, u.2.2.2.2.1, u.2.2.2.2.2.1, u.2.2.2.2.2.2), rfl, ⟨pr1 e9, pr2 e9⟩, ⟨by rw [ht9]; exact hP, va_K.moved hW.alike hK, hD⟩⟩, hS.F ht9⟩) hS.2.2 dX1_readByte_13
def fnA_readOperand_119 (u : sA) (y0 : Int32) : Option (Int32 × sA) := some (y0, u)
def fnA_readOperand_80 (u : sA) (x2 : Int32) (y0 : Int32) (y1 : Int32) (y2 : Int32) : Option (Int32 × sA) := (fnA_findAddress u y2 y1 y0).bind (fun r8 => if r8.1 = (-1 : Int32) then (some ((-1 : Int32), (r8.2.1, r8.2.2.1, r8.2.2.2.1, r8.2.2.2.2.1, r8.2.2.2.2.2.1, r8.1, r8.2.2.2.2.2.2.2))) else (if x2 = 0 then ((fnA_readWord (r8.2.1, r8.2.2.1, r8.2.2.2.1, r8.2.2.2.2.1, r8.2.2.2.2.2.1, r8.1, r8.2.2.2.2.2.2.2) r8.1).bind (fun r12 => fnA_readOperand_119 r12.2 r12.1)) else ((fnA_readByte (r8.2.1, r8.2.2.1, r8.2.2.2.1, r8.2.2.2.2.1, r8.2.2.2.2.2.1, r8.1, r8.2.2.2.2.2.2.2) r8.1).bind (fun r14 => fnA_readOperand_119 r14.2 r14.1))))
def fnA_readOperand_79 (u : sA) (x2 : Int32) (y0 : Int32) (y1 : Int32) : Option (Int32 × sA) := fnA_readOperand_80 u x2 (2 : Int32) y0 y1
def fnA_readOperand_58 (u : sA) (y0 : Int32) : Option (Int32 × sA) := some (y0, u)
def fnA_readOperand (u : sA) (a1 : Int32) (a2 : Int32) : Option (Int32 × sA) := if ixk (a1 >>> ((3 : Int32) &&& 31)) 8 then (if (a1 >>> ((3 : Int32) &&& 31)) = 0 then (if a2 = 0 then (if ixk (a1 &&& (7 : Int32)) 8 then (fnA_readOperand_58 (u.1, u.2.1, u.2.2.1, u.2.2.2.1, (u.2.2.2.2.1 + (mcT (a1 >>> ((3 : Int32) &&& 31)).toNatClampNeg)), (-1 : Int32), u.2.2.2.2.2.2) (u.2.1 (a1 &&& (7 : Int32)).toNatClampNeg)) else none) else (if ixk (a1 &&& (7 : Int32)) 8 then (fnA_readOperand_58 (u.1, u.2.1, u.2.2.1, u.2.2.2.1, (u.2.2.2.2.1 + (mcT (a1 >>> ((3 : Int32) &&& 31)).toNatClampNeg)), (-1 : Int32), u.2.2.2.2.2.2) ((u.2.1 (a1 &&& (7 : Int32)).toNatClampNeg) &&& (255 : Int32))) else none)) else (if a2 = 0 then (fnA_readOperand_79 (u.1, u.2.1, u.2.2.1, u.2.2.2.1, (u.2.2.2.2.1 + (mcT (a1 >>> ((3 : Int32) &&& 31)).toNatClampNeg)), u.2.2.2.2.2.1, u.2.2.2.2.2.2) a2 (a1 &&& (7 : Int32)) (a1 >>> ((3 : Int32) &&& 31))) else (if (6 : Int32) ≤ (a1 &&& (7 : Int32)) then (fnA_readOperand_79 (u.1, u.2.1, u.2.2.1, u.2.2.2.1, (u.2.2.2.2.1 + (mcT (a1 >>> ((3 : Int32) &&& 31)).toNatClampNeg)), u.2.2.2.2.2.1, u.2.2.2.2.2.2) a2 (a1 &&& (7 : Int32)) (a1 >>> ((3 : Int32) &&& 31))) else (fnA_readOperand_80 (u.1, u.2.1, u.2.2.1, u.2.2.2.1, (u.2.2.2.2.1 + (mcT (a1 >>> ((3 : Int32) &&& 31)).toNatClampNeg)), u.2.2.2.2.2.1, u.2.2.2.2.2.2) a2 (1 : Int32) (a1 &&& (7 : Int32)) (a1 >>> ((3 : Int32) &&& 31)))))) else none
set_option maxRecDepth 100000 in
set_option maxHeartbeats 4000000 in
theorem ctA_readOperand (l : Launch) (D : va_G) (kI : ClassId) (tb : Nat) (o aw ar ak : Nat) (sz : Nat) (u : sA) (a1 : Int32) (a2 : Int32) (tg : Int32 × sA) (ht : fnA_readOperand u a1 a2 = some tg) : Met l yX1_readOperand (Cond.code yX1_readOperand cX1_readOperand 5 (some .int) :: wAll) ({ frames := 2, cells := 0, slots := 0, locals := 48 } : Room) (va_Pc [.ref o, .int a1, .int a2] (prA D kI tb o aw ar ak sz u)) (va_Qi (fun (x : Int32) (v : sA) => x = tg.1 ∧ v = tg.2) (poG D kI (clA o aw ar ak kI) (va_A (clA o aw ar ak kI u) sz)) (va_A (clA o aw ar ak kI u) sz)) 0 0 (va_A (clA o aw ar ak kI u) sz) := by
  refine mOfW (cc := cX1_readOperand) (maxL := 5) (ret := (some .int)) (by decide) rfl ?_
  intro p e s m args below meth c s₁ Q R hQ hR B hml hv
  obtain ⟨rfl, hsz, hP, hK, hD0, hZ⟩ := hv
  have hx := B.exec
  have hb := B.bytes
  have hr := B.returns
  have hts := atoms_spec (ws := Cond.code yX1_readOperand cX1_readOperand 5 (some .int) :: wAll) B.pre
  have hw : ∀ {w : Cond}, w ∈ wAll → w.before _ s = true := fun {w} h => hts w (List.mem_cons_of_mem _ h)
  have hown : s.vm.findClass RX1 = some m.cls := findClass_of_methodNamed B.named
  have hlocks := B.notSynchronized
  have hRf : 2 ≤ R.frames := by rw [hR]; exact Nat.le_refl _
  have hRl : 48 ≤ R.locals := by rw [hR]; exact Nat.le_refl _
  subst hsz
  have hD := hD0.self (sz := s.heap.size)
  generalize hAe : va_A (clA o aw ar ak kI u) s.heap.size = A at hD hZ hQ
  have hA : ∀ q : Nat, s.heap.size ≤ q → A q := fun q h => by rw [← hAe]; exact Or.inr h
  have hl := lv_entry ([.ref o, .int a1, .int a2]) (n := 5) (Nat.le_of_ble_eq_true rfl)
  rw [lg_entry_eq]
  generalize (lg_sl ([.ref o, .int a1, .int a2]) ++ List.replicate (5 - (lg_sl ([.ref o, .int a1, .int a2])).length) Slot.unset).toArray = ls at hl ⊢
  have hl : lv_has ls 5 [(0, .ref o), (1, .int a1), (2, .int a2)] := hl
  have hin0 : ∀ w ∈ u_ws RX1 TX1 7, w ∈ (Cond.code yX1_readOperand cX1_readOperand 5 (some .int) :: wAll) := fun w h => List.mem_cons_of_mem _ (w_flX1 w h)
  have K119 : ∀ (H : Heap) (locs : List Loc) (ls : Array Slot) (u : sA) (y0 : Int32) , va_P D vwCl (clA o aw ar ak kI u) H → va_D A (clA o aw ar ak kI u) → va_S A s.heap H locs → lv_has ls 5 [] → fnA_readOperand_119 u y0 = some tg → W p l e R s m ([.ref o, .int a1, .int a2] : List Value).toArray below meth c H locs 0 0 Q (F0 m 119 ls [.int y0]) := by
    intro H locs ls u y0 hP hD hS hl ht
    unfold fnA_readOperand_119 at ht
    have e9 := Option.some.inj ht
    subst hQ
    exact W.iret (v := y0) hx hb hr (fun t ht9 hW => ⟨⟨y0, u, rfl, ⟨pr1 e9, pr2 e9⟩, ⟨by rw [ht9]; exact hP, va_K.moved hW.alike hK, hD⟩⟩, hS.F ht9⟩) hS.2.2 dX1_readOperand_119
  have K80 : ∀ (H : Heap) (locs : List Loc) (ls : Array Slot) (u : sA) (x2 : Int32) (y0 : Int32) (y1 : Int32) (y2 : Int32) , va_P D vwCl (clA o aw ar ak kI u) H → va_D A (clA o aw ar ak kI u) → va_S A s.heap H locs → lv_has ls 5 [(0, .ref o), (2, .int x2)] → fnA_readOperand_80 u x2 y0 y1 y2 = some tg → W p l e R s m ([.ref o, .int a1, .int a2] : List Value).toArray below meth c H locs 0 0 Q (F0 m 80 ls [.int y0, .int y1, .int y2, .ref o, .ref o]) := by
    intro H locs ls u x2 y0 y1 y2 hP hD hS hl ht
    unfold fnA_readOperand_80 at ht
    obtain ⟨r8, h9, ht⟩ := ob_some ht
    refine kG_i (cl := clA o aw ar ak kI) (u := u) (va_runV (As := [.int y2, .int y1, .int y0]) (rest := [.ref o]) ⟨hx, hb, hml, hown, hts⟩ (ctA_findAddress l D kI tb o aw ar ak H.size u y2 y1 y0 r8 h9) (cwV 3 hts (gV w_m_X1_146 w_im_yX1_findAddress w_sel_yX1_findAddress w_init_MicroMill w_co_yX1_findAddress) rfl rfl rfl (by decide +kernel) ⟨Nat.le_trans (Nat.le_of_ble_eq_true rfl) hRf, Nat.le_trans (Nat.le_of_ble_eq_true rfl) hRl⟩) (preA hK hP hD hS hA hZ _) rfl rfl hl.1 rfl (lv_room (Nat.le_of_ble_eq_true rfl)) dX1_readOperand_80 ⟨Nat.zero_le _, Nat.zero_le _⟩) hD hS hA (fun H locs hP hD hS => ?_)
    refine va_put (D := D) (ci := 1) (v := .int r8.1) (ty := .int) (C := RX1) (T := TX1) (N := 7) hx hb hts hin0 tyX1 tyX1_ok nmX1 hown hK hP hD hS 0 rfl rfl 6 (by decide) (hw w_f_X1_34) (fun _ h9 => h9) rfl (by decide +kernel) rfl rfl (Nat.le_of_ble_eq_true rfl) dX1_readOperand_83 (fun H locs hP hD hS => ?_)
    have hP : va_P D vwCl (clA o aw ar ak kI (r8.2.1, r8.2.2.1, r8.2.2.2.1, r8.2.2.2.2.1, r8.2.2.2.2.2.1, r8.1, r8.2.2.2.2.2.2.2)) H := hP
    have hD : va_D A (clA o aw ar ak kI (r8.2.1, r8.2.2.1, r8.2.2.2.1, r8.2.2.2.2.1, r8.2.2.2.2.2.1, r8.1, r8.2.2.2.2.2.2.2)) := hD
    refine lv_aload_n hx hb dX1_readOperand_86 rfl (lv_at hl 0 rfl) ?_
    refine va_get (D := D) (ci := 1) (v := .int r8.1) (C := RX1) (T := TX1) (N := 7) hx hb hts hin0 hown hK hP 0 rfl rfl 6 (by decide) (hw w_f_X1_34) (fun _ h9 => h9) rfl dX1_readOperand_87 ?_
    refine lv_iconst (v := (-1 : Int32)) hx hb dX1_readOperand_90 (by decide) ?_
    refine lv_icmp_ne (tgt := 96) hx hb dX1_readOperand_91 (by decide) (fun g10 => ?_) (fun g10 => ?_)
    · have ht := (if_neg g10).symm.trans ht
      refine lv_iload_n hx hb dX1_readOperand_96 rfl (lv_at hl 1 rfl) ?_
      refine lv_if_eq (tgt := 111) hx hb dX1_readOperand_97 (by decide) (fun g11 => ?_) (fun g11 => ?_)
      · have ht := (if_pos g11).symm.trans ht
        refine lv_aload_n hx hb dX1_readOperand_111 rfl (lv_at hl 0 rfl) ?_
        refine lv_aload_n hx hb dX1_readOperand_112 rfl (lv_at hl 0 rfl) ?_
        refine va_get (D := D) (ci := 1) (v := .int r8.1) (C := RX1) (T := TX1) (N := 7) hx hb hts hin0 hown hK hP 0 rfl rfl 6 (by decide) (hw w_f_X1_34) (fun _ h9 => h9) rfl dX1_readOperand_113 ?_
        obtain ⟨r12, h13, ht⟩ := ob_some ht
        refine kG_i (cl := clA o aw ar ak kI) (u := (r8.2.1, r8.2.2.1, r8.2.2.2.1, r8.2.2.2.2.1, r8.2.2.2.2.2.1, r8.1, r8.2.2.2.2.2.2.2)) (va_runV (As := [.int r8.1]) (rest := []) ⟨hx, hb, hml, hown, hts⟩ (ctA_readWord l D kI tb o aw ar ak H.size (r8.2.1, r8.2.2.1, r8.2.2.2.1, r8.2.2.2.2.1, r8.2.2.2.2.2.1, r8.1, r8.2.2.2.2.2.2.2) r8.1 r12 h13) (cwV 1 hts (gV w_m_X1_61 w_im_yX1_readWord w_sel_yX1_readWord w_init_MicroMill w_co_yX1_readWord) rfl rfl rfl (by decide +kernel) ⟨Nat.le_trans (Nat.le_of_ble_eq_true rfl) hRf, Nat.le_trans (Nat.le_of_ble_eq_true rfl) hRl⟩) (preA hK hP hD hS hA hZ _) rfl rfl hl.1 rfl (lv_room (Nat.le_of_ble_eq_true rfl)) dX1_readOperand_116 ⟨Nat.zero_le _, Nat.zero_le _⟩) hD hS hA (fun H locs hP hD hS => ?_)
        exact K119 _ _ _ r12.2 r12.1 hP hD hS (lv_sub hl [] rfl) ht
      · have ht := (if_neg g11).symm.trans ht
        refine lv_aload_n hx hb dX1_readOperand_100 rfl (lv_at hl 0 rfl) ?_
        refine lv_aload_n hx hb dX1_readOperand_101 rfl (lv_at hl 0 rfl) ?_
        refine va_get (D := D) (ci := 1) (v := .int r8.1) (C := RX1) (T := TX1) (N := 7) hx hb hts hin0 hown hK hP 0 rfl rfl 6 (by decide) (hw w_f_X1_34) (fun _ h9 => h9) rfl dX1_readOperand_102 ?_
        obtain ⟨r14, h15, ht⟩ := ob_some ht
        refine kG_i (cl := clA o aw ar ak kI) (u := (r8.2.1, r8.2.2.1, r8.2.2.2.1, r8.2.2.2.2.1, r8.2.2.2.2.2.1, r8.1, r8.2.2.2.2.2.2.2)) (va_runV (As := [.int r8.1]) (rest := []) ⟨hx, hb, hml, hown, hts⟩ (ctA_readByte l D kI tb o aw ar ak H.size (r8.2.1, r8.2.2.1, r8.2.2.2.1, r8.2.2.2.2.1, r8.2.2.2.2.2.1, r8.1, r8.2.2.2.2.2.2.2) r8.1 r14 h15) (cwV 1 hts (gV w_m_X1_149 w_im_yX1_readByte w_sel_yX1_readByte w_init_MicroMill w_co_yX1_readByte) rfl rfl rfl (by decide +kernel) ⟨Nat.le_trans (Nat.le_of_ble_eq_true rfl) hRf, Nat.le_trans (Nat.le_of_ble_eq_true rfl) hRl⟩) (preA hK hP hD hS hA hZ _) rfl rfl hl.1 rfl (lv_room (Nat.le_of_ble_eq_true rfl)) dX1_readOperand_105 ⟨Nat.zero_le _, Nat.zero_le _⟩) hD hS hA (fun H locs hP hD hS => ?_)
        refine lv_goto (tgt := 119) hx hb dX1_readOperand_108 (by decide) ?_
        exact K119 _ _ _ r14.2 r14.1 hP hD hS (lv_sub hl [] rfl) ht
    · have ht := (if_pos g10).symm.trans ht
      refine lv_iconst (v := (-1 : Int32)) hx hb dX1_readOperand_94 (by decide) ?_
      have e9 := Option.some.inj ht
      subst hQ
      exact W.iret (v := (-1 : Int32)) hx hb hr (fun t ht9 hW => ⟨⟨(-1 : Int32), (r8.2.1, r8.2.2.1, r8.2.2.2.1, r8.2.2.2.2.1, r8.2.2.2.2.2.1, r8.1, r8.2.2.2.2.2.2.2), rfl, ⟨pr1 e9, pr2 e9⟩, ⟨by rw [ht9]; exact hP, va_K.moved hW.alike hK, hD⟩⟩, hS.F ht9⟩) hS.2.2 dX1_readOperand_95
  have K79 : ∀ (H : Heap) (locs : List Loc) (ls : Array Slot) (u : sA) (x2 : Int32) (y0 : Int32) (y1 : Int32) , va_P D vwCl (clA o aw ar ak kI u) H → va_D A (clA o aw ar ak kI u) → va_S A s.heap H locs → lv_has ls 5 [(0, .ref o), (2, .int x2)] → fnA_readOperand_79 u x2 y0 y1 = some tg → W p l e R s m ([.ref o, .int a1, .int a2] : List Value).toArray below meth c H locs 0 0 Q (F0 m 79 ls [.int y0, .int y1, .ref o, .ref o]) := by
    intro H locs ls u x2 y0 y1 hP hD hS hl ht
    unfold fnA_readOperand_79 at ht
    refine lv_iconst (v := (2 : Int32)) hx hb dX1_readOperand_79 (by decide) ?_
    exact K80 _ _ _ u x2 (2 : Int32) y0 y1 hP hD hS (lv_sub hl [0, 1] rfl) ht
  have K58 : ∀ (H : Heap) (locs : List Loc) (ls : Array Slot) (u : sA) (y0 : Int32) , va_P D vwCl (clA o aw ar ak kI u) H → va_D A (clA o aw ar ak kI u) → va_S A s.heap H locs → lv_has ls 5 [] → fnA_readOperand_58 u y0 = some tg → W p l e R s m ([.ref o, .int a1, .int a2] : List Value).toArray below meth c H locs 0 0 Q (F0 m 58 ls [.int y0]) := by
    intro H locs ls u y0 hP hD hS hl ht
    unfold fnA_readOperand_58 at ht
    have e9 := Option.some.inj ht
    subst hQ
    exact W.iret (v := y0) hx hb hr (fun t ht9 hW => ⟨⟨y0, u, rfl, ⟨pr1 e9, pr2 e9⟩, ⟨by rw [ht9]; exact hP, va_K.moved hW.alike hK, hD⟩⟩, hS.F ht9⟩) hS.2.2 dX1_readOperand_58
  unfold fnA_readOperand at ht
  obtain ⟨H, hHe⟩ : ∃ H : Heap, H = s.heap := ⟨_, rfl⟩
  have hP : va_P D vwCl (clA o aw ar ak kI u) H := by rw [hHe]; exact hP
  have hS : va_S A s.heap H [] := by rw [hHe]; exact va_S.rf
  rw [← hHe]
  refine lv_iload_n hx hb dX1_readOperand_0 rfl (lv_at hl 1 rfl) ?_
  refine lv_iconst (v := (3 : Int32)) hx hb dX1_readOperand_1 (by decide) ?_
  refine lv_ishr hx hb dX1_readOperand_2 ?_
  refine lv_istore_n (lv' := [(3, .int (a1 >>> ((3 : Int32) &&& 31))), (0, .ref o), (1, .int a1), (2, .int a2)]) hx hb dX1_readOperand_3 rfl hl (by decide) rfl (fun ls hl => ?_)
  refine lv_iload_n hx hb dX1_readOperand_4 rfl (lv_at hl 2 rfl) ?_
  refine lv_bipush (v := (7 : Int32)) hx hb dX1_readOperand_5 (by decide) ?_
  refine lv_iand hx hb dX1_readOperand_7 ?_
  refine lv_istore (lv' := [(4, .int (a1 &&& (7 : Int32))), (3, .int (a1 >>> ((3 : Int32) &&& 31))), (0, .ref o), (1, .int a1), (2, .int a2)]) hx hb dX1_readOperand_8 hl (by decide) rfl (fun ls hl => ?_)
  refine lv_aload_n hx hb dX1_readOperand_10 rfl (lv_at hl 2 rfl) ?_
  refine lv_dup hx hb dX1_readOperand_11 rfl ?_
  refine va_get (D := D) (ci := 1) (v := .int u.2.2.2.2.1) (C := RX1) (T := TX1) (N := 7) hx hb hts hin0 hown hK hP 0 rfl rfl 5 (by decide) (hw w_f_X1_31) (fun _ h9 => h9) rfl dX1_readOperand_12 ?_
  refine va_gets hx hb hZ.1 hS hown (hw w_f_X1_143) (fun _ h9 => h9) dX1_readOperand_15 ?_
  refine lv_iload_n hx hb dX1_readOperand_18 rfl (lv_at hl 1 rfl) ?_
  obtain ⟨b1, ht⟩ := oi_some ht
  refine va_ti hx hb hZ.2.1 hS (ixk_in b1) (v := .int (mcT (a1 >>> ((3 : Int32) &&& 31)).toNatClampNeg)) rfl dX1_readOperand_19 ?_
  refine lv_iadd hx hb dX1_readOperand_20 ?_
  refine va_put (D := D) (ci := 1) (v := .int (u.2.2.2.2.1 + (mcT (a1 >>> ((3 : Int32) &&& 31)).toNatClampNeg))) (ty := .int) (C := RX1) (T := TX1) (N := 7) hx hb hts hin0 tyX1 tyX1_ok nmX1 hown hK hP hD hS 0 rfl rfl 5 (by decide) (hw w_f_X1_31) (fun _ h9 => h9) rfl (by decide +kernel) rfl rfl (Nat.le_of_ble_eq_true rfl) dX1_readOperand_21 (fun H locs hP hD hS => ?_)
  have hP : va_P D vwCl (clA o aw ar ak kI (u.1, u.2.1, u.2.2.1, u.2.2.2.1, (u.2.2.2.2.1 + (mcT (a1 >>> ((3 : Int32) &&& 31)).toNatClampNeg)), u.2.2.2.2.2.1, u.2.2.2.2.2.2)) H := hP
  have hD : va_D A (clA o aw ar ak kI (u.1, u.2.1, u.2.2.1, u.2.2.2.1, (u.2.2.2.2.1 + (mcT (a1 >>> ((3 : Int32) &&& 31)).toNatClampNeg)), u.2.2.2.2.2.1, u.2.2.2.2.2.2)) := hD
  refine lv_iload_n hx hb dX1_readOperand_24 rfl (lv_at hl 1 rfl) ?_
  refine lv_if_ne (tgt := 59) hx hb dX1_readOperand_25 (by decide) (fun g2 => ?_) (fun g2 => ?_)
  · have ht := (if_neg g2).symm.trans ht
    refine lv_aload_n hx hb dX1_readOperand_59 rfl (lv_at hl 2 rfl) ?_
    refine lv_aload_n hx hb dX1_readOperand_60 rfl (lv_at hl 2 rfl) ?_
    refine lv_iload_n hx hb dX1_readOperand_61 rfl (lv_at hl 1 rfl) ?_
    refine lv_iload hx hb dX1_readOperand_62 (lv_at hl 0 rfl) ?_
    refine lv_iload_n hx hb dX1_readOperand_64 rfl (lv_at hl 4 rfl) ?_
    refine lv_if_eq (tgt := 79) hx hb dX1_readOperand_65 (by decide) (fun g3 => ?_) (fun g3 => ?_)
    · have ht := (if_pos g3).symm.trans ht
      exact K79 _ _ _ (u.1, u.2.1, u.2.2.1, u.2.2.2.1, (u.2.2.2.2.1 + (mcT (a1 >>> ((3 : Int32) &&& 31)).toNatClampNeg)), u.2.2.2.2.2.1, u.2.2.2.2.2.2) a2 (a1 &&& (7 : Int32)) (a1 >>> ((3 : Int32) &&& 31)) hP hD hS (lv_sub hl [2, 4] rfl) ht
    · have ht := (if_neg g3).symm.trans ht
      refine lv_iload hx hb dX1_readOperand_68 (lv_at hl 0 rfl) ?_
      refine lv_bipush (v := (6 : Int32)) hx hb dX1_readOperand_70 (by decide) ?_
      refine lv_icmp_ge (tgt := 79) hx hb dX1_readOperand_72 (by decide) (fun g4 => ?_) (fun g4 => ?_)
      · have ht := (if_pos g4).symm.trans ht
        exact K79 _ _ _ (u.1, u.2.1, u.2.2.1, u.2.2.2.1, (u.2.2.2.2.1 + (mcT (a1 >>> ((3 : Int32) &&& 31)).toNatClampNeg)), u.2.2.2.2.2.1, u.2.2.2.2.2.2) a2 (a1 &&& (7 : Int32)) (a1 >>> ((3 : Int32) &&& 31)) hP hD hS (lv_sub hl [2, 4] rfl) ht
      · have ht := (if_neg g4).symm.trans ht
        refine lv_iconst (v := (1 : Int32)) hx hb dX1_readOperand_75 (by decide) ?_
        refine lv_goto (tgt := 80) hx hb dX1_readOperand_76 (by decide) ?_
        exact K80 _ _ _ (u.1, u.2.1, u.2.2.1, u.2.2.2.1, (u.2.2.2.2.1 + (mcT (a1 >>> ((3 : Int32) &&& 31)).toNatClampNeg)), u.2.2.2.2.2.1, u.2.2.2.2.2.2) a2 (1 : Int32) (a1 &&& (7 : Int32)) (a1 >>> ((3 : Int32) &&& 31)) hP hD hS (lv_sub hl [2, 4] rfl) ht
  · have ht := (if_pos g2).symm.trans ht
    refine lv_aload_n hx hb dX1_readOperand_28 rfl (lv_at hl 2 rfl) ?_
    refine lv_iconst (v := (-1 : Int32)) hx hb dX1_readOperand_29 (by decide) ?_
    refine va_put (D := D) (ci := 1) (v := .int (-1 : Int32)) (ty := .int) (C := RX1) (T := TX1) (N := 7) hx hb hts hin0 tyX1 tyX1_ok nmX1 hown hK hP hD hS 0 rfl rfl 6 (by decide) (hw w_f_X1_34) (fun _ h9 => h9) rfl (by decide +kernel) rfl rfl (Nat.le_of_ble_eq_true rfl) dX1_readOperand_30 (fun H locs hP hD hS => ?_)
    have hP : va_P D vwCl (clA o aw ar ak kI (u.1, u.2.1, u.2.2.1, u.2.2.2.1, (u.2.2.2.2.1 + (mcT (a1 >>> ((3 : Int32) &&& 31)).toNatClampNeg)), (-1 : Int32), u.2.2.2.2.2.2)) H := hP
    have hD : va_D A (clA o aw ar ak kI (u.1, u.2.1, u.2.2.1, u.2.2.2.1, (u.2.2.2.2.1 + (mcT (a1 >>> ((3 : Int32) &&& 31)).toNatClampNeg)), (-1 : Int32), u.2.2.2.2.2.2)) := hD
    refine lv_iload_n hx hb dX1_readOperand_33 rfl (lv_at hl 4 rfl) ?_
    refine lv_if_eq (tgt := 51) hx hb dX1_readOperand_34 (by decide) (fun g5 => ?_) (fun g5 => ?_)
    · have ht := (if_pos g5).symm.trans ht
      refine lv_aload_n hx hb dX1_readOperand_51 rfl (lv_at hl 2 rfl) ?_
      refine va_get (D := D) (ci := 1) (v := .ref ar) (C := RX1) (T := TX1) (N := 7) hx hb hts hin0 hown hK hP 0 rfl rfl 1 (by decide) (hw w_f_X1_13) (fun _ h9 => h9) rfl dX1_readOperand_52 ?_
      refine lv_iload hx hb dX1_readOperand_55 (lv_at hl 0 rfl) ?_
      obtain ⟨b6, ht⟩ := oi_some ht
      refine va_iald hx hb hK hP 2 0 rfl rfl (ixk_in b6) dX1_readOperand_57 ?_
      exact K58 _ _ _ (u.1, u.2.1, u.2.2.1, u.2.2.2.1, (u.2.2.2.2.1 + (mcT (a1 >>> ((3 : Int32) &&& 31)).toNatClampNeg)), (-1 : Int32), u.2.2.2.2.2.2) (u.2.1 (a1 &&& (7 : Int32)).toNatClampNeg) hP hD hS (lv_sub hl [] rfl) ht
    · have ht := (if_neg g5).symm.trans ht
      refine lv_aload_n hx hb dX1_readOperand_37 rfl (lv_at hl 2 rfl) ?_
      refine va_get (D := D) (ci := 1) (v := .ref ar) (C := RX1) (T := TX1) (N := 7) hx hb hts hin0 hown hK hP 0 rfl rfl 1 (by decide) (hw w_f_X1_13) (fun _ h9 => h9) rfl dX1_readOperand_38 ?_
      refine lv_iload hx hb dX1_readOperand_41 (lv_at hl 0 rfl) ?_
      obtain ⟨b7, ht⟩ := oi_some ht
      refine va_iald hx hb hK hP 2 0 rfl rfl (ixk_in b7) dX1_readOperand_43 ?_
      refine lv_sipush (v := (255 : Int32)) hx hb dX1_readOperand_44 (by decide) ?_
      refine lv_iand hx hb dX1_readOperand_47 ?_
      refine lv_goto (tgt := 58) hx hb dX1_readOperand_48 (by decide) ?_
      exact K58 _ _ _ (u.1, u.2.1, u.2.2.1, u.2.2.2.1, (u.2.2.2.2.1 + (mcT (a1 >>> ((3 : Int32) &&& 31)).toNatClampNeg)), (-1 : Int32), u.2.2.2.2.2.2) ((u.2.1 (a1 &&& (7 : Int32)).toNatClampNeg) &&& (255 : Int32)) hP hD hS (lv_sub hl [] rfl) ht
def fnA_doOneOperand_105 (u : sA) : Option (Unit × sA) := some ((), u)
def fnA_doOneOperand_76 (u : sA) (x1 : Int32) (x2 : Int32) (x3 : Int32) (y0 : Int32) : Option (Unit × sA) := if x3 = (47 : Int32) then (fnA_doOneOperand_105 (u.1, u.2.1, u.2.2.1, u.2.2.2.1, (u.2.2.2.2.1 + (1 : Int32)), u.2.2.2.2.2.1, u.2.2.2.2.2.2)) else ((fnA_putResult (u.1, u.2.1, u.2.2.1, u.2.2.2.1, (u.2.2.2.2.1 + (1 : Int32)), u.2.2.2.2.2.1, u.2.2.2.2.2.2) (x1 &&& (7 : Int32)) y0 x2).bind (fun r13 => fnA_doOneOperand_105 r13.2))
def fnA_doOneOperand_12 (u : sA) (x1 : Int32) (y0 : Int32) : Option (Unit × sA) := (fnA_readOperand u (x1 &&& (63 : Int32)) y0).bind (fun r2 => if r2.1 = (-1 : Int32) then (some ((), r2.2)) else ((fnW_takeWidth r2.2.2.2.2.2.2.2 y0).bind (fun r5 => if ((x1 &&& (-32769 : Int32)) >>> ((6 : Int32) &&& 31)) < (48 : Int32) then ((fnW_ofOne r5.2 ((x1 &&& (-32769 : Int32)) >>> ((6 : Int32) &&& 31)) r2.1).bind (fun r8 => fnA_doOneOperand_76 (r2.2.1, r2.2.2.1, r2.2.2.2.1, r2.2.2.2.2.1, r2.2.2.2.2.2.1, r2.2.2.2.2.2.2.1, r8.2) x1 y0 ((x1 &&& (-32769 : Int32)) >>> ((6 : Int32) &&& 31)) r8.1)) else ((fnW_ofShift r5.2 ((x1 &&& (-32769 : Int32)) >>> ((6 : Int32) &&& 31)) r2.1).bind (fun r10 => fnA_doOneOperand_76 (r2.2.1, r2.2.2.1, r2.2.2.2.1, r2.2.2.2.2.1, r2.2.2.2.2.2.1, r2.2.2.2.2.2.2.1, r10.2) x1 y0 ((x1 &&& (-32769 : Int32)) >>> ((6 : Int32) &&& 31)) r10.1)))))
def fnA_doOneOperand (u : sA) (a1 : Int32) : Option (Unit × sA) := if (a1 &&& (32768 : Int32)) = 0 then (fnA_doOneOperand_12 u a1 (0 : Int32)) else (fnA_doOneOperand_12 u a1 (1 : Int32))
set_option maxRecDepth 100000 in
set_option maxHeartbeats 4000000 in
theorem ctA_doOneOperand (l : Launch) (D : va_G) (kI : ClassId) (tb : Nat) (o aw ar ak : Nat) (sz : Nat) (u : sA) (a1 : Int32) (tg : Unit × sA) (ht : fnA_doOneOperand u a1 = some tg) : Met l yX1_doOneOperand (Cond.code yX1_doOneOperand cX1_doOneOperand 6 none :: wAll) ({ frames := 3, cells := 0, slots := 0, locals := 72 } : Room) (va_Pc [.ref o, .int a1] (prA D kI tb o aw ar ak sz u)) (va_Qv (fun (v : sA) => v = tg.2) (poG D kI (clA o aw ar ak kI) (va_A (clA o aw ar ak kI u) sz)) (va_A (clA o aw ar ak kI u) sz)) 0 0 (va_A (clA o aw ar ak kI u) sz) := by
  refine mOfW (cc := cX1_doOneOperand) (maxL := 6) (ret := none) (by decide) rfl ?_
  intro p e s m args below meth c s₁ Q R hQ hR B hml hv
  obtain ⟨rfl, hsz, hP, hK, hD0, hZ⟩ := hv
  have hx := B.exec
  have hb := B.bytes
  have hr := B.returns
  have hts := atoms_spec (ws := Cond.code yX1_doOneOperand cX1_doOneOperand 6 none :: wAll) B.pre
  have hw : ∀ {w : Cond}, w ∈ wAll → w.before _ s = true := fun {w} h => hts w (List.mem_cons_of_mem _ h)
  have hown : s.vm.findClass RX1 = some m.cls := findClass_of_methodNamed B.named
  have hlocks := B.notSynchronized
  have hRf : 3 ≤ R.frames := by rw [hR]; exact Nat.le_refl _
  have hRl : 72 ≤ R.locals := by rw [hR]; exact Nat.le_refl _
  subst hsz
  have hD := hD0.self (sz := s.heap.size)
  generalize hAe : va_A (clA o aw ar ak kI u) s.heap.size = A at hD hZ hQ
  have hA : ∀ q : Nat, s.heap.size ≤ q → A q := fun q h => by rw [← hAe]; exact Or.inr h
  have hl := lv_entry ([.ref o, .int a1]) (n := 6) (Nat.le_of_ble_eq_true rfl)
  rw [lg_entry_eq]
  generalize (lg_sl ([.ref o, .int a1]) ++ List.replicate (6 - (lg_sl ([.ref o, .int a1])).length) Slot.unset).toArray = ls at hl ⊢
  have hl : lv_has ls 6 [(0, .ref o), (1, .int a1)] := hl
  have hin0 : ∀ w ∈ u_ws RX1 TX1 7, w ∈ (Cond.code yX1_doOneOperand cX1_doOneOperand 6 none :: wAll) := fun w h => List.mem_cons_of_mem _ (w_flX1 w h)
  have hn108 : va_Nw (.methodLinkNest RX1 108 yX0_takeWidth "MicroMill") s := hZ.2.2 _ (by decide +kernel)
  have hn124 : va_Nw (.methodLinkNest RX1 124 yX0_ofShift "MicroMill") s := hZ.2.2 _ (by decide +kernel)
  have hn127 : va_Nw (.methodLinkNest RX1 127 yX0_ofOne "MicroMill") s := hZ.2.2 _ (by decide +kernel)
  have K105 : ∀ (H : Heap) (locs : List Loc) (ls : Array Slot) (u : sA) , va_P D vwCl (clA o aw ar ak kI u) H → va_D A (clA o aw ar ak kI u) → va_S A s.heap H locs → lv_has ls 6 [] → fnA_doOneOperand_105 u  = some tg → W p l e R s m ([.ref o, .int a1] : List Value).toArray below meth c H locs 0 0 Q (F0 m 105 ls []) := by
    intro H locs ls u  hP hD hS hl ht
    unfold fnA_doOneOperand_105 at ht
    have e9 := Option.some.inj ht
    subst hQ
    exact W.vret hx hb hr (fun t ht9 hW => ⟨⟨u, rfl, pr2 e9, ⟨by rw [ht9]; exact hP, va_K.moved hW.alike hK, hD⟩⟩, hS.F ht9⟩) hS.2.2 dX1_doOneOperand_105
  have K76 : ∀ (H : Heap) (locs : List Loc) (ls : Array Slot) (u : sA) (x1 : Int32) (x2 : Int32) (x3 : Int32) (y0 : Int32) , va_P D vwCl (clA o aw ar ak kI u) H → va_D A (clA o aw ar ak kI u) → va_S A s.heap H locs → lv_has ls 6 [(0, .ref o), (1, .int x1), (2, .int x2), (3, .int x3)] → fnA_doOneOperand_76 u x1 x2 x3 y0 = some tg → W p l e R s m ([.ref o, .int a1] : List Value).toArray below meth c H locs 0 0 Q (F0 m 76 ls [.int y0]) := by
    intro H locs ls u x1 x2 x3 y0 hP hD hS hl ht
    unfold fnA_doOneOperand_76 at ht
    refine lv_istore (lv' := [(5, .int y0), (0, .ref o), (1, .int x1), (2, .int x2), (3, .int x3)]) hx hb dX1_doOneOperand_76 hl (by decide) rfl (fun ls hl => ?_)
    refine lv_aload_n hx hb dX1_doOneOperand_78 rfl (lv_at hl 1 rfl) ?_
    refine lv_dup hx hb dX1_doOneOperand_79 rfl ?_
    refine va_get (D := D) (ci := 1) (v := .int u.2.2.2.2.1) (C := RX1) (T := TX1) (N := 7) hx hb hts hin0 hown hK hP 0 rfl rfl 5 (by decide) (hw w_f_X1_31) (fun _ h9 => h9) rfl dX1_doOneOperand_80 ?_
    refine lv_iconst (v := (1 : Int32)) hx hb dX1_doOneOperand_83 (by decide) ?_
    refine lv_iadd hx hb dX1_doOneOperand_84 ?_
    refine va_put (D := D) (ci := 1) (v := .int (u.2.2.2.2.1 + (1 : Int32))) (ty := .int) (C := RX1) (T := TX1) (N := 7) hx hb hts hin0 tyX1 tyX1_ok nmX1 hown hK hP hD hS 0 rfl rfl 5 (by decide) (hw w_f_X1_31) (fun _ h9 => h9) rfl (by decide +kernel) rfl rfl (Nat.le_of_ble_eq_true rfl) dX1_doOneOperand_85 (fun H locs hP hD hS => ?_)
    have hP : va_P D vwCl (clA o aw ar ak kI (u.1, u.2.1, u.2.2.1, u.2.2.2.1, (u.2.2.2.2.1 + (1 : Int32)), u.2.2.2.2.2.1, u.2.2.2.2.2.2)) H := hP
    have hD : va_D A (clA o aw ar ak kI (u.1, u.2.1, u.2.2.1, u.2.2.2.1, (u.2.2.2.2.1 + (1 : Int32)), u.2.2.2.2.2.1, u.2.2.2.2.2.2)) := hD
    refine lv_iload_n hx hb dX1_doOneOperand_88 rfl (lv_at hl 4 rfl) ?_
    refine lv_bipush (v := (47 : Int32)) hx hb dX1_doOneOperand_89 (by decide) ?_
    refine lv_icmp_eq (tgt := 105) hx hb dX1_doOneOperand_91 (by decide) (fun g12 => ?_) (fun g12 => ?_)
    · have ht := (if_pos g12).symm.trans ht
      exact K105 _ _ _ (u.1, u.2.1, u.2.2.1, u.2.2.2.1, (u.2.2.2.2.1 + (1 : Int32)), u.2.2.2.2.2.1, u.2.2.2.2.2.2) hP hD hS (lv_sub hl [] rfl) ht
    · have ht := (if_neg g12).symm.trans ht
      refine lv_aload_n hx hb dX1_doOneOperand_94 rfl (lv_at hl 1 rfl) ?_
      refine lv_iload_n hx hb dX1_doOneOperand_95 rfl (lv_at hl 2 rfl) ?_
      refine lv_bipush (v := (7 : Int32)) hx hb dX1_doOneOperand_96 (by decide) ?_
      refine lv_iand hx hb dX1_doOneOperand_98 ?_
      refine lv_iload hx hb dX1_doOneOperand_99 (lv_at hl 0 rfl) ?_
      refine lv_iload_n hx hb dX1_doOneOperand_101 rfl (lv_at hl 3 rfl) ?_
      obtain ⟨r13, h14, ht⟩ := ob_some ht
      refine kG_v (cl := clA o aw ar ak kI) (u := (u.1, u.2.1, u.2.2.1, u.2.2.2.1, (u.2.2.2.2.1 + (1 : Int32)), u.2.2.2.2.2.1, u.2.2.2.2.2.2)) (va_runV (As := [.int (x1 &&& (7 : Int32)), .int y0, .int x2]) (rest := []) ⟨hx, hb, hml, hown, hts⟩ (ctA_putResult l D kI tb o aw ar ak H.size (u.1, u.2.1, u.2.2.1, u.2.2.2.1, (u.2.2.2.2.1 + (1 : Int32)), u.2.2.2.2.2.1, u.2.2.2.2.2.2) (x1 &&& (7 : Int32)) y0 x2 r13 h14) (cwV 3 hts (gV w_m_X1_120 w_im_yX1_putResult w_sel_yX1_putResult w_init_MicroMill w_co_yX1_putResult) rfl rfl rfl (by decide +kernel) ⟨Nat.le_trans (Nat.le_of_ble_eq_true rfl) hRf, Nat.le_trans (Nat.le_of_ble_eq_true rfl) hRl⟩) (preA hK hP hD hS hA hZ _) rfl rfl hl.1 rfl (lv_room (Nat.le_of_ble_eq_true rfl)) dX1_doOneOperand_102 ⟨Nat.zero_le _, Nat.zero_le _⟩) hD hS hA (fun H locs hP hD hS => ?_)
      exact K105 _ _ _ r13.2 hP hD hS (lv_sub hl [] rfl) ht
  have K12 : ∀ (H : Heap) (locs : List Loc) (ls : Array Slot) (u : sA) (x1 : Int32) (y0 : Int32) , va_P D vwCl (clA o aw ar ak kI u) H → va_D A (clA o aw ar ak kI u) → va_S A s.heap H locs → lv_has ls 6 [(0, .ref o), (1, .int x1)] → fnA_doOneOperand_12 u x1 y0 = some tg → W p l e R s m ([.ref o, .int a1] : List Value).toArray below meth c H locs 0 0 Q (F0 m 12 ls [.int y0]) := by
    intro H locs ls u x1 y0 hP hD hS hl ht
    unfold fnA_doOneOperand_12 at ht
    refine lv_istore_n (lv' := [(2, .int y0), (0, .ref o), (1, .int x1)]) hx hb dX1_doOneOperand_12 rfl hl (by decide) rfl (fun ls hl => ?_)
    refine lv_iload_n hx hb dX1_doOneOperand_13 rfl (lv_at hl 2 rfl) ?_
    refine lv_ldc (v := (-32769 : Int32)) hx hb hown (hw w_k_X1_102) dX1_doOneOperand_14 ?_
    refine lv_iand hx hb dX1_doOneOperand_16 ?_
    refine lv_bipush (v := (6 : Int32)) hx hb dX1_doOneOperand_17 (by decide) ?_
    refine lv_ishr hx hb dX1_doOneOperand_19 ?_
    refine lv_istore_n (lv' := [(3, .int ((x1 &&& (-32769 : Int32)) >>> ((6 : Int32) &&& 31))), (2, .int y0), (0, .ref o), (1, .int x1)]) hx hb dX1_doOneOperand_20 rfl hl (by decide) rfl (fun ls hl => ?_)
    refine lv_aload_n hx hb dX1_doOneOperand_21 rfl (lv_at hl 2 rfl) ?_
    refine lv_iload_n hx hb dX1_doOneOperand_22 rfl (lv_at hl 3 rfl) ?_
    refine lv_bipush (v := (63 : Int32)) hx hb dX1_doOneOperand_23 (by decide) ?_
    refine lv_iand hx hb dX1_doOneOperand_25 ?_
    refine lv_iload_n hx hb dX1_doOneOperand_26 rfl (lv_at hl 1 rfl) ?_
    obtain ⟨r2, h3, ht⟩ := ob_some ht
    refine kG_i (cl := clA o aw ar ak kI) (u := u) (va_runV (As := [.int (x1 &&& (63 : Int32)), .int y0]) (rest := []) ⟨hx, hb, hml, hown, hts⟩ (ctA_readOperand l D kI tb o aw ar ak H.size u (x1 &&& (63 : Int32)) y0 r2 h3) (cwV 2 hts (gV w_m_X1_104 w_im_yX1_readOperand w_sel_yX1_readOperand w_init_MicroMill w_co_yX1_readOperand) rfl rfl rfl (by decide +kernel) ⟨Nat.le_trans (Nat.le_of_ble_eq_true rfl) hRf, Nat.le_trans (Nat.le_of_ble_eq_true rfl) hRl⟩) (preA hK hP hD hS hA hZ _) rfl rfl hl.1 rfl (lv_room (Nat.le_of_ble_eq_true rfl)) dX1_doOneOperand_27 ⟨Nat.zero_le _, Nat.zero_le _⟩) hD hS hA (fun H locs hP hD hS => ?_)
    refine lv_istore (lv' := [(4, .int r2.1), (3, .int ((x1 &&& (-32769 : Int32)) >>> ((6 : Int32) &&& 31))), (2, .int y0), (0, .ref o), (1, .int x1)]) hx hb dX1_doOneOperand_30 hl (by decide) rfl (fun ls hl => ?_)
    refine lv_iload hx hb dX1_doOneOperand_32 (lv_at hl 0 rfl) ?_
    refine lv_iconst (v := (-1 : Int32)) hx hb dX1_doOneOperand_34 (by decide) ?_
    refine lv_icmp_ne (tgt := 39) hx hb dX1_doOneOperand_35 (by decide) (fun g4 => ?_) (fun g4 => ?_)
    · have ht := (if_neg g4).symm.trans ht
      refine lv_aload_n hx hb dX1_doOneOperand_39 rfl (lv_at hl 3 rfl) ?_
      refine va_get (D := D) (ci := 1) (v := .ref ak) (C := RX1) (T := TX1) (N := 7) hx hb hts hin0 hown hK hP 0 rfl rfl 2 (by decide) (hw w_f_X1_19) (fun _ h9 => h9) rfl dX1_doOneOperand_40 ?_
      refine lv_iload_n hx hb dX1_doOneOperand_43 rfl (lv_at hl 2 rfl) ?_
      obtain ⟨r5, h6, ht⟩ := ob_some ht
      refine kW_v (u := r2.2) (va_runVN (As := [.int y0]) (rest := []) ⟨hx, hb, hml, hown, hts⟩ (ctW_takeWidth l D kI ak H.size r2.2.2.2.2.2.2.2 y0 r5 h6) ⟨va_cnB 1 hts (gC w_co_yX0_takeWidth) rfl rfl rfl hn108 (hw w_init_MicroMill_Work) (by decide +kernel) ⟨Nat.le_trans (Nat.le_of_ble_eq_true rfl) hRf, Nat.le_trans (Nat.le_of_ble_eq_true rfl) hRl⟩, hw w_im_yX0_takeWidth, hw w_sel_yX0_takeWidth⟩ (preG (cl := clW ak) (u := r2.2.2.2.2.2.2.2) (N := 6) (ci := 0) hK (hP.sub (ws' := clW ak r2.2.2.2.2.2.2.2) [3] rfl) ((hD.sub (ws' := clW ak r2.2.2.2.2.2.2.2) [3] (by decide) rfl).weaken (fun _ _ _ _ => trivial)) rfl rfl _) rfl rfl hl.1 rfl (lv_room (Nat.le_of_ble_eq_true rfl)) dX1_doOneOperand_44 ⟨Nat.zero_le _, Nat.zero_le _⟩) hP hD hS hA (fun H locs hP hD hS => ?_)
      have hP : va_P D vwCl (clA o aw ar ak kI (r2.2.1, r2.2.2.1, r2.2.2.2.1, r2.2.2.2.2.1, r2.2.2.2.2.2.1, r2.2.2.2.2.2.2.1, r5.2)) H := hP
      have hD : va_D A (clA o aw ar ak kI (r2.2.1, r2.2.2.1, r2.2.2.2.1, r2.2.2.2.2.1, r2.2.2.2.2.2.1, r2.2.2.2.2.2.2.1, r5.2)) := hD
      refine lv_iload_n hx hb dX1_doOneOperand_47 rfl (lv_at hl 1 rfl) ?_
      refine lv_bipush (v := (48 : Int32)) hx hb dX1_doOneOperand_48 (by decide) ?_
      refine lv_icmp_lt (tgt := 66) hx hb dX1_doOneOperand_50 (by decide) (fun g7 => ?_) (fun g7 => ?_)
      · have ht := (if_pos g7).symm.trans ht
        refine lv_aload_n hx hb dX1_doOneOperand_66 rfl (lv_at hl 3 rfl) ?_
        refine va_get (D := D) (ci := 1) (v := .ref ak) (C := RX1) (T := TX1) (N := 7) hx hb hts hin0 hown hK hP 0 rfl rfl 2 (by decide) (hw w_f_X1_19) (fun _ h9 => h9) rfl dX1_doOneOperand_67 ?_
        refine lv_iload_n hx hb dX1_doOneOperand_70 rfl (lv_at hl 1 rfl) ?_
        refine lv_iload hx hb dX1_doOneOperand_71 (lv_at hl 0 rfl) ?_
        obtain ⟨r8, h9, ht⟩ := ob_some ht
        refine kW_i (u := (r2.2.1, r2.2.2.1, r2.2.2.2.1, r2.2.2.2.2.1, r2.2.2.2.2.2.1, r2.2.2.2.2.2.2.1, r5.2)) (va_runVN (As := [.int ((x1 &&& (-32769 : Int32)) >>> ((6 : Int32) &&& 31)), .int r2.1]) (rest := []) ⟨hx, hb, hml, hown, hts⟩ (ctW_ofOne l D kI ak H.size r5.2 ((x1 &&& (-32769 : Int32)) >>> ((6 : Int32) &&& 31)) r2.1 r8 h9) ⟨va_cnB 2 hts (gC w_co_yX0_ofOne) rfl rfl rfl hn127 (hw w_init_MicroMill_Work) (by decide +kernel) ⟨Nat.le_trans (Nat.le_of_ble_eq_true rfl) hRf, Nat.le_trans (Nat.le_of_ble_eq_true rfl) hRl⟩, hw w_im_yX0_ofOne, hw w_sel_yX0_ofOne⟩ (preG (cl := clW ak) (u := r5.2) (N := 6) (ci := 0) hK (hP.sub (ws' := clW ak r5.2) [3] rfl) ((hD.sub (ws' := clW ak r5.2) [3] (by decide) rfl).weaken (fun _ _ _ _ => trivial)) rfl rfl _) rfl rfl hl.1 rfl (lv_room (Nat.le_of_ble_eq_true rfl)) dX1_doOneOperand_73 ⟨Nat.zero_le _, Nat.zero_le _⟩) hP hD hS hA (fun H locs hP hD hS => ?_)
        have hP : va_P D vwCl (clA o aw ar ak kI (r2.2.1, r2.2.2.1, r2.2.2.2.1, r2.2.2.2.2.1, r2.2.2.2.2.2.1, r2.2.2.2.2.2.2.1, r8.2)) H := hP
        have hD : va_D A (clA o aw ar ak kI (r2.2.1, r2.2.2.1, r2.2.2.2.1, r2.2.2.2.2.1, r2.2.2.2.2.2.1, r2.2.2.2.2.2.2.1, r8.2)) := hD
        exact K76 _ _ _ (r2.2.1, r2.2.2.1, r2.2.2.2.1, r2.2.2.2.2.1, r2.2.2.2.2.2.1, r2.2.2.2.2.2.2.1, r8.2) x1 y0 ((x1 &&& (-32769 : Int32)) >>> ((6 : Int32) &&& 31)) r8.1 hP hD hS (lv_sub hl [3, 4, 2, 1] rfl) ht
      · have ht := (if_neg g7).symm.trans ht
        refine lv_aload_n hx hb dX1_doOneOperand_53 rfl (lv_at hl 3 rfl) ?_
        refine va_get (D := D) (ci := 1) (v := .ref ak) (C := RX1) (T := TX1) (N := 7) hx hb hts hin0 hown hK hP 0 rfl rfl 2 (by decide) (hw w_f_X1_19) (fun _ h9 => h9) rfl dX1_doOneOperand_54 ?_
        refine lv_iload_n hx hb dX1_doOneOperand_57 rfl (lv_at hl 1 rfl) ?_
        refine lv_iload hx hb dX1_doOneOperand_58 (lv_at hl 0 rfl) ?_
        obtain ⟨r10, h11, ht⟩ := ob_some ht
        refine kW_i (u := (r2.2.1, r2.2.2.1, r2.2.2.2.1, r2.2.2.2.2.1, r2.2.2.2.2.2.1, r2.2.2.2.2.2.2.1, r5.2)) (va_runVN (As := [.int ((x1 &&& (-32769 : Int32)) >>> ((6 : Int32) &&& 31)), .int r2.1]) (rest := []) ⟨hx, hb, hml, hown, hts⟩ (ctW_ofShift l D kI ak H.size r5.2 ((x1 &&& (-32769 : Int32)) >>> ((6 : Int32) &&& 31)) r2.1 r10 h11) ⟨va_cnB 2 hts (gC w_co_yX0_ofShift) rfl rfl rfl hn124 (hw w_init_MicroMill_Work) (by decide +kernel) ⟨Nat.le_trans (Nat.le_of_ble_eq_true rfl) hRf, Nat.le_trans (Nat.le_of_ble_eq_true rfl) hRl⟩, hw w_im_yX0_ofShift, hw w_sel_yX0_ofShift⟩ (preG (cl := clW ak) (u := r5.2) (N := 6) (ci := 0) hK (hP.sub (ws' := clW ak r5.2) [3] rfl) ((hD.sub (ws' := clW ak r5.2) [3] (by decide) rfl).weaken (fun _ _ _ _ => trivial)) rfl rfl _) rfl rfl hl.1 rfl (lv_room (Nat.le_of_ble_eq_true rfl)) dX1_doOneOperand_60 ⟨Nat.zero_le _, Nat.zero_le _⟩) hP hD hS hA (fun H locs hP hD hS => ?_)
        have hP : va_P D vwCl (clA o aw ar ak kI (r2.2.1, r2.2.2.1, r2.2.2.2.1, r2.2.2.2.2.1, r2.2.2.2.2.2.1, r2.2.2.2.2.2.2.1, r10.2)) H := hP
        have hD : va_D A (clA o aw ar ak kI (r2.2.1, r2.2.2.1, r2.2.2.2.1, r2.2.2.2.2.1, r2.2.2.2.2.2.1, r2.2.2.2.2.2.2.1, r10.2)) := hD
        refine lv_goto (tgt := 76) hx hb dX1_doOneOperand_63 (by decide) ?_
        exact K76 _ _ _ (r2.2.1, r2.2.2.1, r2.2.2.2.1, r2.2.2.2.2.1, r2.2.2.2.2.2.1, r2.2.2.2.2.2.2.1, r10.2) x1 y0 ((x1 &&& (-32769 : Int32)) >>> ((6 : Int32) &&& 31)) r10.1 hP hD hS (lv_sub hl [3, 4, 2, 1] rfl) ht
    · have ht := (if_pos g4).symm.trans ht
      have e9 := Option.some.inj ht
      subst hQ
      exact W.vret hx hb hr (fun t ht9 hW => ⟨⟨r2.2, rfl, pr2 e9, ⟨by rw [ht9]; exact hP, va_K.moved hW.alike hK, hD⟩⟩, hS.F ht9⟩) hS.2.2 dX1_doOneOperand_38
  unfold fnA_doOneOperand at ht
  obtain ⟨H, hHe⟩ : ∃ H : Heap, H = s.heap := ⟨_, rfl⟩
  have hP : va_P D vwCl (clA o aw ar ak kI u) H := by rw [hHe]; exact hP
  have hS : va_S A s.heap H [] := by rw [hHe]; exact va_S.rf
  rw [← hHe]
  refine lv_iload_n hx hb dX1_doOneOperand_0 rfl (lv_at hl 1 rfl) ?_
  refine lv_ldc (v := (32768 : Int32)) hx hb hown (hw w_k_X1_103) dX1_doOneOperand_1 ?_
  refine lv_iand hx hb dX1_doOneOperand_3 ?_
  refine lv_if_eq (tgt := 11) hx hb dX1_doOneOperand_4 (by decide) (fun g1 => ?_) (fun g1 => ?_)
  · have ht := (if_pos g1).symm.trans ht
    refine lv_iconst (v := (0 : Int32)) hx hb dX1_doOneOperand_11 (by decide) ?_
    exact K12 _ _ _ u a1 (0 : Int32) hP hD hS (lv_sub hl [0, 1] rfl) ht
  · have ht := (if_neg g1).symm.trans ht
    refine lv_iconst (v := (1 : Int32)) hx hb dX1_doOneOperand_7 (by decide) ?_
    refine lv_goto (tgt := 12) hx hb dX1_doOneOperand_8 (by decide) ?_
    exact K12 _ _ _ u a1 (1 : Int32) hP hD hS (lv_sub hl [0, 1] rfl) ht
def fnA_doReturn_47 (u : sA) : Option (Unit × sA) := some ((), u)
def fnA_doReturn (u : sA) (a1 : Int32) : Option (Unit × sA) := if ixk a1 8 then (if ixk (7 : Int32) 8 then ((fnA_stepUp (u.1, (upd u.2.1 (7 : Int32).toNatClampNeg (u.2.1 a1.toNatClampNeg)), u.2.2.1, u.2.2.2.1, u.2.2.2.2.1, u.2.2.2.2.2.1, u.2.2.2.2.2.2) (6 : Int32) (2 : Int32)).bind (fun r3 => (fnA_readWord r3.2 r3.1).bind (fun r5 => if r5.1 = (-1 : Int32) then (fnA_doReturn_47 r5.2) else (if ixk a1 8 then (fnA_doReturn_47 (r5.2.1, (upd r5.2.2.1 a1.toNatClampNeg r5.1), r5.2.2.2.1, r5.2.2.2.2.1, (r5.2.2.2.2.2.1 + (3 : Int32)), r5.2.2.2.2.2.2.1, r5.2.2.2.2.2.2.2)) else none)))) else none) else none
set_option maxRecDepth 100000 in
set_option maxHeartbeats 4000000 in
theorem ctA_doReturn (l : Launch) (D : va_G) (kI : ClassId) (tb : Nat) (o aw ar ak : Nat) (sz : Nat) (u : sA) (a1 : Int32) (tg : Unit × sA) (ht : fnA_doReturn u a1 = some tg) : Met l yX1_doReturn (Cond.code yX1_doReturn cX1_doReturn 3 none :: wAll) ({ frames := 1, cells := 0, slots := 0, locals := 23 } : Room) (va_Pc [.ref o, .int a1] (prA D kI tb o aw ar ak sz u)) (va_Qv (fun (v : sA) => v = tg.2) (poG D kI (clA o aw ar ak kI) (va_A (clA o aw ar ak kI u) sz)) (va_A (clA o aw ar ak kI u) sz)) 0 0 (va_A (clA o aw ar ak kI u) sz) := by
  refine mOfW (cc := cX1_doReturn) (maxL := 3) (ret := none) (by decide) rfl ?_
  intro p e s m args below meth c s₁ Q R hQ hR B hml hv
  obtain ⟨rfl, hsz, hP, hK, hD0, hZ⟩ := hv
  have hx := B.exec
  have hb := B.bytes
  have hr := B.returns
  have hts := atoms_spec (ws := Cond.code yX1_doReturn cX1_doReturn 3 none :: wAll) B.pre
  have hw : ∀ {w : Cond}, w ∈ wAll → w.before _ s = true := fun {w} h => hts w (List.mem_cons_of_mem _ h)
  have hown : s.vm.findClass RX1 = some m.cls := findClass_of_methodNamed B.named
  have hlocks := B.notSynchronized
  have hRf : 1 ≤ R.frames := by rw [hR]; exact Nat.le_refl _
  have hRl : 23 ≤ R.locals := by rw [hR]; exact Nat.le_refl _
  subst hsz
  have hD := hD0.self (sz := s.heap.size)
  generalize hAe : va_A (clA o aw ar ak kI u) s.heap.size = A at hD hZ hQ
  have hA : ∀ q : Nat, s.heap.size ≤ q → A q := fun q h => by rw [← hAe]; exact Or.inr h
  have hl := lv_entry ([.ref o, .int a1]) (n := 3) (Nat.le_of_ble_eq_true rfl)
  rw [lg_entry_eq]
  generalize (lg_sl ([.ref o, .int a1]) ++ List.replicate (3 - (lg_sl ([.ref o, .int a1])).length) Slot.unset).toArray = ls at hl ⊢
  have hl : lv_has ls 3 [(0, .ref o), (1, .int a1)] := hl
  have hin0 : ∀ w ∈ u_ws RX1 TX1 7, w ∈ (Cond.code yX1_doReturn cX1_doReturn 3 none :: wAll) := fun w h => List.mem_cons_of_mem _ (w_flX1 w h)
  have K47 : ∀ (H : Heap) (locs : List Loc) (ls : Array Slot) (u : sA) , va_P D vwCl (clA o aw ar ak kI u) H → va_D A (clA o aw ar ak kI u) → va_S A s.heap H locs → lv_has ls 3 [] → fnA_doReturn_47 u  = some tg → W p l e R s m ([.ref o, .int a1] : List Value).toArray below meth c H locs 0 0 Q (F0 m 47 ls []) := by
    intro H locs ls u  hP hD hS hl ht
    unfold fnA_doReturn_47 at ht
    have e9 := Option.some.inj ht
    subst hQ
    exact W.vret hx hb hr (fun t ht9 hW => ⟨⟨u, rfl, pr2 e9, ⟨by rw [ht9]; exact hP, va_K.moved hW.alike hK, hD⟩⟩, hS.F ht9⟩) hS.2.2 dX1_doReturn_47
  unfold fnA_doReturn at ht
  obtain ⟨H, hHe⟩ : ∃ H : Heap, H = s.heap := ⟨_, rfl⟩
  have hP : va_P D vwCl (clA o aw ar ak kI u) H := by rw [hHe]; exact hP
  have hS : va_S A s.heap H [] := by rw [hHe]; exact va_S.rf
  rw [← hHe]
  refine lv_aload_n hx hb dX1_doReturn_0 rfl (lv_at hl 0 rfl) ?_
  refine va_get (D := D) (ci := 1) (v := .ref ar) (C := RX1) (T := TX1) (N := 7) hx hb hts hin0 hown hK hP 0 rfl rfl 1 (by decide) (hw w_f_X1_13) (fun _ h9 => h9) rfl dX1_doReturn_1 ?_
  refine lv_bipush (v := (7 : Int32)) hx hb dX1_doReturn_4 (by decide) ?_
  refine lv_aload_n hx hb dX1_doReturn_6 rfl (lv_at hl 0 rfl) ?_
  refine va_get (D := D) (ci := 1) (v := .ref ar) (C := RX1) (T := TX1) (N := 7) hx hb hts hin0 hown hK hP 0 rfl rfl 1 (by decide) (hw w_f_X1_13) (fun _ h9 => h9) rfl dX1_doReturn_7 ?_
  refine lv_iload_n hx hb dX1_doReturn_10 rfl (lv_at hl 1 rfl) ?_
  obtain ⟨b1, ht⟩ := oi_some ht
  refine va_iald hx hb hK hP 2 0 rfl rfl (ixk_in b1) dX1_doReturn_11 ?_
  obtain ⟨b2, ht⟩ := oi_some ht
  refine va_iast hx hb hK hP hD hS 2 0 rfl rfl (ixk_in b2) dX1_doReturn_12 (fun H locs hP hD hS => ?_)
  have hP : va_P D vwCl (clA o aw ar ak kI (u.1, (upd u.2.1 (7 : Int32).toNatClampNeg (u.2.1 a1.toNatClampNeg)), u.2.2.1, u.2.2.2.1, u.2.2.2.2.1, u.2.2.2.2.2.1, u.2.2.2.2.2.2)) H := hP
  have hD : va_D A (clA o aw ar ak kI (u.1, (upd u.2.1 (7 : Int32).toNatClampNeg (u.2.1 a1.toNatClampNeg)), u.2.2.1, u.2.2.2.1, u.2.2.2.2.1, u.2.2.2.2.2.1, u.2.2.2.2.2.2)) := hD
  refine lv_aload_n hx hb dX1_doReturn_13 rfl (lv_at hl 0 rfl) ?_
  refine lv_aload_n hx hb dX1_doReturn_14 rfl (lv_at hl 0 rfl) ?_
  refine lv_bipush (v := (6 : Int32)) hx hb dX1_doReturn_15 (by decide) ?_
  refine lv_iconst (v := (2 : Int32)) hx hb dX1_doReturn_17 (by decide) ?_
  obtain ⟨r3, h4, ht⟩ := ob_some ht
  refine kG_i (cl := clA o aw ar ak kI) (u := (u.1, (upd u.2.1 (7 : Int32).toNatClampNeg (u.2.1 a1.toNatClampNeg)), u.2.2.1, u.2.2.2.1, u.2.2.2.2.1, u.2.2.2.2.2.1, u.2.2.2.2.2.2)) (va_runV (As := [.int (6 : Int32), .int (2 : Int32)]) (rest := [.ref o]) ⟨hx, hb, hml, hown, hts⟩ (ctA_stepUp l D kI tb o aw ar ak H.size (u.1, (upd u.2.1 (7 : Int32).toNatClampNeg (u.2.1 a1.toNatClampNeg)), u.2.2.1, u.2.2.2.1, u.2.2.2.2.1, u.2.2.2.2.2.1, u.2.2.2.2.2.2) (6 : Int32) (2 : Int32) r3 h4) (cwV 2 hts (gV w_m_X1_58 w_im_yX1_stepUp w_sel_yX1_stepUp w_init_MicroMill w_co_yX1_stepUp) rfl rfl rfl (by decide +kernel) ⟨Nat.le_trans (Nat.le_of_ble_eq_true rfl) hRf, Nat.le_trans (Nat.le_of_ble_eq_true rfl) hRl⟩) (preA hK hP hD hS hA hZ _) rfl rfl hl.1 rfl (lv_room (Nat.le_of_ble_eq_true rfl)) dX1_doReturn_18 ⟨Nat.zero_le _, Nat.zero_le _⟩) hD hS hA (fun H locs hP hD hS => ?_)
  obtain ⟨r5, h6, ht⟩ := ob_some ht
  refine kG_i (cl := clA o aw ar ak kI) (u := r3.2) (va_runV (As := [.int r3.1]) (rest := []) ⟨hx, hb, hml, hown, hts⟩ (ctA_readWord l D kI tb o aw ar ak H.size r3.2 r3.1 r5 h6) (cwV 1 hts (gV w_m_X1_61 w_im_yX1_readWord w_sel_yX1_readWord w_init_MicroMill w_co_yX1_readWord) rfl rfl rfl (by decide +kernel) ⟨Nat.le_trans (Nat.le_of_ble_eq_true rfl) hRf, Nat.le_trans (Nat.le_of_ble_eq_true rfl) hRl⟩) (preA hK hP hD hS hA hZ _) rfl rfl hl.1 rfl (lv_room (Nat.le_of_ble_eq_true rfl)) dX1_doReturn_21 ⟨Nat.zero_le _, Nat.zero_le _⟩) hD hS hA (fun H locs hP hD hS => ?_)
  refine lv_istore_n (lv' := [(2, .int r5.1), (0, .ref o), (1, .int a1)]) hx hb dX1_doReturn_24 rfl hl (by decide) rfl (fun ls hl => ?_)
  refine lv_iload_n hx hb dX1_doReturn_25 rfl (lv_at hl 0 rfl) ?_
  refine lv_iconst (v := (-1 : Int32)) hx hb dX1_doReturn_26 (by decide) ?_
  refine lv_icmp_eq (tgt := 47) hx hb dX1_doReturn_27 (by decide) (fun g7 => ?_) (fun g7 => ?_)
  · have ht := (if_pos g7).symm.trans ht
    exact K47 _ _ _ r5.2 hP hD hS (lv_sub hl [] rfl) ht
  · have ht := (if_neg g7).symm.trans ht
    refine lv_aload_n hx hb dX1_doReturn_30 rfl (lv_at hl 1 rfl) ?_
    refine va_get (D := D) (ci := 1) (v := .ref ar) (C := RX1) (T := TX1) (N := 7) hx hb hts hin0 hown hK hP 0 rfl rfl 1 (by decide) (hw w_f_X1_13) (fun _ h9 => h9) rfl dX1_doReturn_31 ?_
    refine lv_iload_n hx hb dX1_doReturn_34 rfl (lv_at hl 2 rfl) ?_
    refine lv_iload_n hx hb dX1_doReturn_35 rfl (lv_at hl 0 rfl) ?_
    obtain ⟨b8, ht⟩ := oi_some ht
    refine va_iast hx hb hK hP hD hS 2 0 rfl rfl (ixk_in b8) dX1_doReturn_36 (fun H locs hP hD hS => ?_)
    have hP : va_P D vwCl (clA o aw ar ak kI (r5.2.1, (upd r5.2.2.1 a1.toNatClampNeg r5.1), r5.2.2.2.1, r5.2.2.2.2.1, r5.2.2.2.2.2.1, r5.2.2.2.2.2.2.1, r5.2.2.2.2.2.2.2)) H := hP
    have hD : va_D A (clA o aw ar ak kI (r5.2.1, (upd r5.2.2.1 a1.toNatClampNeg r5.1), r5.2.2.2.1, r5.2.2.2.2.1, r5.2.2.2.2.2.1, r5.2.2.2.2.2.2.1, r5.2.2.2.2.2.2.2)) := hD
    refine lv_aload_n hx hb dX1_doReturn_37 rfl (lv_at hl 1 rfl) ?_
    refine lv_dup hx hb dX1_doReturn_38 rfl ?_
    refine va_get (D := D) (ci := 1) (v := .int r5.2.2.2.2.2.1) (C := RX1) (T := TX1) (N := 7) hx hb hts hin0 hown hK hP 0 rfl rfl 5 (by decide) (hw w_f_X1_31) (fun _ h9 => h9) rfl dX1_doReturn_39 ?_
    refine lv_iconst (v := (3 : Int32)) hx hb dX1_doReturn_42 (by decide) ?_
    refine lv_iadd hx hb dX1_doReturn_43 ?_
    refine va_put (D := D) (ci := 1) (v := .int (r5.2.2.2.2.2.1 + (3 : Int32))) (ty := .int) (C := RX1) (T := TX1) (N := 7) hx hb hts hin0 tyX1 tyX1_ok nmX1 hown hK hP hD hS 0 rfl rfl 5 (by decide) (hw w_f_X1_31) (fun _ h9 => h9) rfl (by decide +kernel) rfl rfl (Nat.le_of_ble_eq_true rfl) dX1_doReturn_44 (fun H locs hP hD hS => ?_)
    have hP : va_P D vwCl (clA o aw ar ak kI (r5.2.1, (upd r5.2.2.1 a1.toNatClampNeg r5.1), r5.2.2.2.1, r5.2.2.2.2.1, (r5.2.2.2.2.2.1 + (3 : Int32)), r5.2.2.2.2.2.2.1, r5.2.2.2.2.2.2.2)) H := hP
    have hD : va_D A (clA o aw ar ak kI (r5.2.1, (upd r5.2.2.1 a1.toNatClampNeg r5.1), r5.2.2.2.1, r5.2.2.2.2.1, (r5.2.2.2.2.2.1 + (3 : Int32)), r5.2.2.2.2.2.2.1, r5.2.2.2.2.2.2.2)) := hD
    exact K47 _ _ _ (r5.2.1, (upd r5.2.2.1 a1.toNatClampNeg r5.1), r5.2.2.2.1, r5.2.2.2.2.1, (r5.2.2.2.2.2.1 + (3 : Int32)), r5.2.2.2.2.2.2.1, r5.2.2.2.2.2.2.2) hP hD hS (lv_sub hl [] rfl) ht
def fnA_doSubtractAndBranch_48 (u : sA) : Option (Unit × sA) := some ((), u)
def fnA_doSubtractAndBranch (u : sA) (a1 : Int32) : Option (Unit × sA) := (fnA_stepDown (u.1, u.2.1, u.2.2.1, u.2.2.2.1, (u.2.2.2.2.1 + (2 : Int32)), u.2.2.2.2.2.1, u.2.2.2.2.2.2) ((a1 >>> ((6 : Int32) &&& 31)) &&& (7 : Int32)) (1 : Int32)).bind (fun r1 => if r1.1 = 0 then (fnA_doSubtractAndBranch_48 r1.2) else ((fnA_stepDown (r1.2.1, r1.2.2.1, r1.2.2.2.1, r1.2.2.2.2.1, (r1.2.2.2.2.2.1 + (1 : Int32)), r1.2.2.2.2.2.2.1, r1.2.2.2.2.2.2.2) (7 : Int32) ((2 : Int32) * (a1 &&& (63 : Int32)))).bind (fun r4 => fnA_doSubtractAndBranch_48 r4.2)))
set_option maxRecDepth 100000 in
set_option maxHeartbeats 4000000 in
theorem ctA_doSubtractAndBranch (l : Launch) (D : va_G) (kI : ClassId) (tb : Nat) (o aw ar ak : Nat) (sz : Nat) (u : sA) (a1 : Int32) (tg : Unit × sA) (ht : fnA_doSubtractAndBranch u a1 = some tg) : Met l yX1_doSubtractAndBranch (Cond.code yX1_doSubtractAndBranch cX1_doSubtractAndBranch 2 none :: wAll) ({ frames := 1, cells := 0, slots := 0, locals := 22 } : Room) (va_Pc [.ref o, .int a1] (prA D kI tb o aw ar ak sz u)) (va_Qv (fun (v : sA) => v = tg.2) (poG D kI (clA o aw ar ak kI) (va_A (clA o aw ar ak kI u) sz)) (va_A (clA o aw ar ak kI u) sz)) 0 0 (va_A (clA o aw ar ak kI u) sz) := by
  refine mOfW (cc := cX1_doSubtractAndBranch) (maxL := 2) (ret := none) (by decide) rfl ?_
  intro p e s m args below meth c s₁ Q R hQ hR B hml hv
  obtain ⟨rfl, hsz, hP, hK, hD0, hZ⟩ := hv
  have hx := B.exec
  have hb := B.bytes
  have hr := B.returns
  have hts := atoms_spec (ws := Cond.code yX1_doSubtractAndBranch cX1_doSubtractAndBranch 2 none :: wAll) B.pre
  have hw : ∀ {w : Cond}, w ∈ wAll → w.before _ s = true := fun {w} h => hts w (List.mem_cons_of_mem _ h)
  have hown : s.vm.findClass RX1 = some m.cls := findClass_of_methodNamed B.named
  have hlocks := B.notSynchronized
  have hRf : 1 ≤ R.frames := by rw [hR]; exact Nat.le_refl _
  have hRl : 22 ≤ R.locals := by rw [hR]; exact Nat.le_refl _
  subst hsz
  have hD := hD0.self (sz := s.heap.size)
  generalize hAe : va_A (clA o aw ar ak kI u) s.heap.size = A at hD hZ hQ
  have hA : ∀ q : Nat, s.heap.size ≤ q → A q := fun q h => by rw [← hAe]; exact Or.inr h
  have hl := lv_entry ([.ref o, .int a1]) (n := 2) (Nat.le_of_ble_eq_true rfl)
  rw [lg_entry_eq]
  generalize (lg_sl ([.ref o, .int a1]) ++ List.replicate (2 - (lg_sl ([.ref o, .int a1])).length) Slot.unset).toArray = ls at hl ⊢
  have hl : lv_has ls 2 [(0, .ref o), (1, .int a1)] := hl
  have hin0 : ∀ w ∈ u_ws RX1 TX1 7, w ∈ (Cond.code yX1_doSubtractAndBranch cX1_doSubtractAndBranch 2 none :: wAll) := fun w h => List.mem_cons_of_mem _ (w_flX1 w h)
  have K48 : ∀ (H : Heap) (locs : List Loc) (ls : Array Slot) (u : sA) , va_P D vwCl (clA o aw ar ak kI u) H → va_D A (clA o aw ar ak kI u) → va_S A s.heap H locs → lv_has ls 2 [] → fnA_doSubtractAndBranch_48 u  = some tg → W p l e R s m ([.ref o, .int a1] : List Value).toArray below meth c H locs 0 0 Q (F0 m 48 ls []) := by
    intro H locs ls u  hP hD hS hl ht
    unfold fnA_doSubtractAndBranch_48 at ht
    have e9 := Option.some.inj ht
    subst hQ
    exact W.vret hx hb hr (fun t ht9 hW => ⟨⟨u, rfl, pr2 e9, ⟨by rw [ht9]; exact hP, va_K.moved hW.alike hK, hD⟩⟩, hS.F ht9⟩) hS.2.2 dX1_doSubtractAndBranch_48
  unfold fnA_doSubtractAndBranch at ht
  obtain ⟨H, hHe⟩ : ∃ H : Heap, H = s.heap := ⟨_, rfl⟩
  have hP : va_P D vwCl (clA o aw ar ak kI u) H := by rw [hHe]; exact hP
  have hS : va_S A s.heap H [] := by rw [hHe]; exact va_S.rf
  rw [← hHe]
  refine lv_aload_n hx hb dX1_doSubtractAndBranch_0 rfl (lv_at hl 0 rfl) ?_
  refine lv_dup hx hb dX1_doSubtractAndBranch_1 rfl ?_
  refine va_get (D := D) (ci := 1) (v := .int u.2.2.2.2.1) (C := RX1) (T := TX1) (N := 7) hx hb hts hin0 hown hK hP 0 rfl rfl 5 (by decide) (hw w_f_X1_31) (fun _ h9 => h9) rfl dX1_doSubtractAndBranch_2 ?_
  refine lv_iconst (v := (2 : Int32)) hx hb dX1_doSubtractAndBranch_5 (by decide) ?_
  refine lv_iadd hx hb dX1_doSubtractAndBranch_6 ?_
  refine va_put (D := D) (ci := 1) (v := .int (u.2.2.2.2.1 + (2 : Int32))) (ty := .int) (C := RX1) (T := TX1) (N := 7) hx hb hts hin0 tyX1 tyX1_ok nmX1 hown hK hP hD hS 0 rfl rfl 5 (by decide) (hw w_f_X1_31) (fun _ h9 => h9) rfl (by decide +kernel) rfl rfl (Nat.le_of_ble_eq_true rfl) dX1_doSubtractAndBranch_7 (fun H locs hP hD hS => ?_)
  have hP : va_P D vwCl (clA o aw ar ak kI (u.1, u.2.1, u.2.2.1, u.2.2.2.1, (u.2.2.2.2.1 + (2 : Int32)), u.2.2.2.2.2.1, u.2.2.2.2.2.2)) H := hP
  have hD : va_D A (clA o aw ar ak kI (u.1, u.2.1, u.2.2.1, u.2.2.2.1, (u.2.2.2.2.1 + (2 : Int32)), u.2.2.2.2.2.1, u.2.2.2.2.2.2)) := hD
  refine lv_aload_n hx hb dX1_doSubtractAndBranch_10 rfl (lv_at hl 0 rfl) ?_
  refine lv_iload_n hx hb dX1_doSubtractAndBranch_11 rfl (lv_at hl 1 rfl) ?_
  refine lv_bipush (v := (6 : Int32)) hx hb dX1_doSubtractAndBranch_12 (by decide) ?_
  refine lv_ishr hx hb dX1_doSubtractAndBranch_14 ?_
  refine lv_bipush (v := (7 : Int32)) hx hb dX1_doSubtractAndBranch_15 (by decide) ?_
  refine lv_iand hx hb dX1_doSubtractAndBranch_17 ?_
  refine lv_iconst (v := (1 : Int32)) hx hb dX1_doSubtractAndBranch_18 (by decide) ?_
  obtain ⟨r1, h2, ht⟩ := ob_some ht
  refine kG_i (cl := clA o aw ar ak kI) (u := (u.1, u.2.1, u.2.2.1, u.2.2.2.1, (u.2.2.2.2.1 + (2 : Int32)), u.2.2.2.2.2.1, u.2.2.2.2.2.2)) (va_runV (As := [.int ((a1 >>> ((6 : Int32) &&& 31)) &&& (7 : Int32)), .int (1 : Int32)]) (rest := []) ⟨hx, hb, hml, hown, hts⟩ (ctA_stepDown l D kI tb o aw ar ak H.size (u.1, u.2.1, u.2.2.1, u.2.2.2.1, (u.2.2.2.2.1 + (2 : Int32)), u.2.2.2.2.2.1, u.2.2.2.2.2.2) ((a1 >>> ((6 : Int32) &&& 31)) &&& (7 : Int32)) (1 : Int32) r1 h2) (cwV 2 hts (gV w_m_X1_133 w_im_yX1_stepDown w_sel_yX1_stepDown w_init_MicroMill w_co_yX1_stepDown) rfl rfl rfl (by decide +kernel) ⟨Nat.le_trans (Nat.le_of_ble_eq_true rfl) hRf, Nat.le_trans (Nat.le_of_ble_eq_true rfl) hRl⟩) (preA hK hP hD hS hA hZ _) rfl rfl hl.1 rfl (lv_room (Nat.le_of_ble_eq_true rfl)) dX1_doSubtractAndBranch_19 ⟨Nat.zero_le _, Nat.zero_le _⟩) hD hS hA (fun H locs hP hD hS => ?_)
  refine lv_if_eq (tgt := 48) hx hb dX1_doSubtractAndBranch_22 (by decide) (fun g3 => ?_) (fun g3 => ?_)
  · have ht := (if_pos g3).symm.trans ht
    exact K48 _ _ _ r1.2 hP hD hS (lv_sub hl [] rfl) ht
  · have ht := (if_neg g3).symm.trans ht
    refine lv_aload_n hx hb dX1_doSubtractAndBranch_25 rfl (lv_at hl 0 rfl) ?_
    refine lv_dup hx hb dX1_doSubtractAndBranch_26 rfl ?_
    refine va_get (D := D) (ci := 1) (v := .int r1.2.2.2.2.2.1) (C := RX1) (T := TX1) (N := 7) hx hb hts hin0 hown hK hP 0 rfl rfl 5 (by decide) (hw w_f_X1_31) (fun _ h9 => h9) rfl dX1_doSubtractAndBranch_27 ?_
    refine lv_iconst (v := (1 : Int32)) hx hb dX1_doSubtractAndBranch_30 (by decide) ?_
    refine lv_iadd hx hb dX1_doSubtractAndBranch_31 ?_
    refine va_put (D := D) (ci := 1) (v := .int (r1.2.2.2.2.2.1 + (1 : Int32))) (ty := .int) (C := RX1) (T := TX1) (N := 7) hx hb hts hin0 tyX1 tyX1_ok nmX1 hown hK hP hD hS 0 rfl rfl 5 (by decide) (hw w_f_X1_31) (fun _ h9 => h9) rfl (by decide +kernel) rfl rfl (Nat.le_of_ble_eq_true rfl) dX1_doSubtractAndBranch_32 (fun H locs hP hD hS => ?_)
    have hP : va_P D vwCl (clA o aw ar ak kI (r1.2.1, r1.2.2.1, r1.2.2.2.1, r1.2.2.2.2.1, (r1.2.2.2.2.2.1 + (1 : Int32)), r1.2.2.2.2.2.2.1, r1.2.2.2.2.2.2.2)) H := hP
    have hD : va_D A (clA o aw ar ak kI (r1.2.1, r1.2.2.1, r1.2.2.2.1, r1.2.2.2.2.1, (r1.2.2.2.2.2.1 + (1 : Int32)), r1.2.2.2.2.2.2.1, r1.2.2.2.2.2.2.2)) := hD
    refine lv_aload_n hx hb dX1_doSubtractAndBranch_35 rfl (lv_at hl 0 rfl) ?_
    refine lv_bipush (v := (7 : Int32)) hx hb dX1_doSubtractAndBranch_36 (by decide) ?_
    refine lv_iconst (v := (2 : Int32)) hx hb dX1_doSubtractAndBranch_38 (by decide) ?_
    refine lv_iload_n hx hb dX1_doSubtractAndBranch_39 rfl (lv_at hl 1 rfl) ?_
    refine lv_bipush (v := (63 : Int32)) hx hb dX1_doSubtractAndBranch_40 (by decide) ?_
    refine lv_iand hx hb dX1_doSubtractAndBranch_42 ?_
    refine lv_imul hx hb dX1_doSubtractAndBranch_43 ?_
    obtain ⟨r4, h5, ht⟩ := ob_some ht
    refine kG_i (cl := clA o aw ar ak kI) (u := (r1.2.1, r1.2.2.1, r1.2.2.2.1, r1.2.2.2.2.1, (r1.2.2.2.2.2.1 + (1 : Int32)), r1.2.2.2.2.2.2.1, r1.2.2.2.2.2.2.2)) (va_runV (As := [.int (7 : Int32), .int ((2 : Int32) * (a1 &&& (63 : Int32)))]) (rest := []) ⟨hx, hb, hml, hown, hts⟩ (ctA_stepDown l D kI tb o aw ar ak H.size (r1.2.1, r1.2.2.1, r1.2.2.2.1, r1.2.2.2.2.1, (r1.2.2.2.2.2.1 + (1 : Int32)), r1.2.2.2.2.2.2.1, r1.2.2.2.2.2.2.2) (7 : Int32) ((2 : Int32) * (a1 &&& (63 : Int32))) r4 h5) (cwV 2 hts (gV w_m_X1_133 w_im_yX1_stepDown w_sel_yX1_stepDown w_init_MicroMill w_co_yX1_stepDown) rfl rfl rfl (by decide +kernel) ⟨Nat.le_trans (Nat.le_of_ble_eq_true rfl) hRf, Nat.le_trans (Nat.le_of_ble_eq_true rfl) hRl⟩) (preA hK hP hD hS hA hZ _) rfl rfl hl.1 rfl (lv_room (Nat.le_of_ble_eq_true rfl)) dX1_doSubtractAndBranch_44 ⟨Nat.zero_le _, Nat.zero_le _⟩) hD hS hA (fun H locs hP hD hS => ?_)
    refine lv_pop hx hb dX1_doSubtractAndBranch_47 rfl ?_
    exact K48 _ _ _ r4.2 hP hD hS (lv_sub hl [] rfl) ht
