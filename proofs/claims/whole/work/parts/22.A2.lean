def fnA_putSigned (u : sA) (a1 : Int32) (a2 : Int32) : Option (Unit × sA) := if ixk a1 8 then (some ((), (u.1, (upd u.2.1 a1.toNatClampNeg (a2.toInt8.toInt32 &&& (65535 : Int32))), u.2.2.1, u.2.2.2.1, (u.2.2.2.2.1 + (1 : Int32)), u.2.2.2.2.2.1, u.2.2.2.2.2.2))) else none
set_option maxRecDepth 100000 in
set_option maxHeartbeats 4000000 in
theorem ctA_putSigned (l : Launch) (D : va_G) (kI : ClassId) (tb : Nat) (o aw ar ak : Nat) (sz : Nat) (u : sA) (a1 : Int32) (a2 : Int32) (tg : Unit × sA) (ht : fnA_putSigned u a1 a2 = some tg) : Met l yX1_putSigned (Cond.code yX1_putSigned cX1_putSigned 3 none :: wAll) ({ frames := 0, cells := 0, slots := 0, locals := 0 } : Room) (va_Pc [.ref o, .int a1, .int a2] (prA D kI tb o aw ar ak sz u)) (va_Qv (fun (v : sA) => v = tg.2) (poG D kI (clA o aw ar ak kI) (va_A (clA o aw ar ak kI u) sz)) (va_A (clA o aw ar ak kI u) sz)) 0 0 (va_A (clA o aw ar ak kI u) sz) := by
  refine mOfW (cc := cX1_putSigned) (maxL := 3) (ret := none) (by decide) rfl ?_
  intro p e s m args below meth c s₁ Q R hQ hR B hml hv
  obtain ⟨rfl, hsz, hP, hK, hD0, hZ⟩ := hv
  have hx := B.exec
  have hb := B.bytes
  have hr := B.returns
  have hts := atoms_spec (ws := Cond.code yX1_putSigned cX1_putSigned 3 none :: wAll) B.pre
  have hw : ∀ {w : Cond}, w ∈ wAll → w.before _ s = true := fun {w} h => hts w (List.mem_cons_of_mem _ h)
  have hown : s.vm.findClass RX1 = some m.cls := findClass_of_methodNamed B.named
  have hlocks := B.notSynchronized
  have hRf : 0 ≤ R.frames := by rw [hR]; exact Nat.le_refl _
  have hRl : 0 ≤ R.locals := by rw [hR]; exact Nat.le_refl _
  subst hsz
  have hD := hD0.self (sz := s.heap.size)
  generalize hAe : va_A (clA o aw ar ak kI u) s.heap.size = A at hD hZ hQ
  have hA : ∀ q : Nat, s.heap.size ≤ q → A q := fun q h => by rw [← hAe]; exact Or.inr h
  have hl := lv_entry ([.ref o, .int a1, .int a2]) (n := 3) (Nat.le_of_ble_eq_true rfl)
  rw [lg_entry_eq]
  generalize (lg_sl ([.ref o, .int a1, .int a2]) ++ List.replicate (3 - (lg_sl ([.ref o, .int a1, .int a2])).length) Slot.unset).toArray = ls at hl ⊢
  have hl : lv_has ls 3 [(0, .ref o), (1, .int a1), (2, .int a2)] := hl
  have hin0 : ∀ w ∈ u_ws RX1 TX1 7, w ∈ (Cond.code yX1_putSigned cX1_putSigned 3 none :: wAll) := fun w h => List.mem_cons_of_mem _ (w_flX1 w h)
  unfold fnA_putSigned at ht
  obtain ⟨H, hHe⟩ : ∃ H : Heap, H = s.heap := ⟨_, rfl⟩
  have hP : va_P D vwCl (clA o aw ar ak kI u) H := by rw [hHe]; exact hP
  have hS : va_S A s.heap H [] := by rw [hHe]; exact va_S.rf
  rw [← hHe]
  refine lv_aload_n hx hb dX1_putSigned_0 rfl (lv_at hl 0 rfl) ?_
  refine lv_dup hx hb dX1_putSigned_1 rfl ?_
  refine va_get (D := D) (ci := 1) (v := .int u.2.2.2.2.1) (C := RX1) (T := TX1) (N := 7) hx hb hts hin0 hown hK hP 0 rfl rfl 5 (by decide) (hw w_f_X1_31) (fun _ h9 => h9) rfl dX1_putSigned_2 ?_
  refine lv_iconst (v := (1 : Int32)) hx hb dX1_putSigned_5 (by decide) ?_
  refine lv_iadd hx hb dX1_putSigned_6 ?_
  refine va_put (D := D) (ci := 1) (v := .int (u.2.2.2.2.1 + (1 : Int32))) (ty := .int) (C := RX1) (T := TX1) (N := 7) hx hb hts hin0 tyX1 tyX1_ok nmX1 hown hK hP hD hS 0 rfl rfl 5 (by decide) (hw w_f_X1_31) (fun _ h9 => h9) rfl (by decide +kernel) rfl rfl (Nat.le_of_ble_eq_true rfl) dX1_putSigned_7 (fun H locs hP hD hS => ?_)
  have hP : va_P D vwCl (clA o aw ar ak kI (u.1, u.2.1, u.2.2.1, u.2.2.2.1, (u.2.2.2.2.1 + (1 : Int32)), u.2.2.2.2.2.1, u.2.2.2.2.2.2)) H := hP
  have hD : va_D A (clA o aw ar ak kI (u.1, u.2.1, u.2.2.1, u.2.2.2.1, (u.2.2.2.2.1 + (1 : Int32)), u.2.2.2.2.2.1, u.2.2.2.2.2.2)) := hD
  refine lv_aload_n hx hb dX1_putSigned_10 rfl (lv_at hl 0 rfl) ?_
  refine va_get (D := D) (ci := 1) (v := .ref ar) (C := RX1) (T := TX1) (N := 7) hx hb hts hin0 hown hK hP 0 rfl rfl 1 (by decide) (hw w_f_X1_13) (fun _ h9 => h9) rfl dX1_putSigned_11 ?_
  refine lv_iload_n hx hb dX1_putSigned_14 rfl (lv_at hl 1 rfl) ?_
  refine lv_iload_n hx hb dX1_putSigned_15 rfl (lv_at hl 2 rfl) ?_
  refine lv_i2b hx hb dX1_putSigned_16 rfl ?_
  refine lv_ldc (v := (65535 : Int32)) hx hb hown (hw w_k_X1_41) dX1_putSigned_17 ?_
  refine lv_iand hx hb dX1_putSigned_19 ?_
  obtain ⟨b1, ht⟩ := oi_some ht
  refine va_iast hx hb hK hP hD hS 2 0 rfl rfl (ixk_in b1) dX1_putSigned_20 (fun H locs hP hD hS => ?_)
  have hP : va_P D vwCl (clA o aw ar ak kI (u.1, (upd u.2.1 a1.toNatClampNeg (a2.toInt8.toInt32 &&& (65535 : Int32))), u.2.2.1, u.2.2.2.1, (u.2.2.2.2.1 + (1 : Int32)), u.2.2.2.2.2.1, u.2.2.2.2.2.2)) H := hP
  have hD : va_D A (clA o aw ar ak kI (u.1, (upd u.2.1 a1.toNatClampNeg (a2.toInt8.toInt32 &&& (65535 : Int32))), u.2.2.1, u.2.2.2.1, (u.2.2.2.2.1 + (1 : Int32)), u.2.2.2.2.2.1, u.2.2.2.2.2.2)) := hD
  have e9 := Option.some.inj ht
  subst hQ
  exact W.vret hx hb hr (fun t ht9 hW => ⟨⟨(u.1, (upd u.2.1 a1.toNatClampNeg (a2.toInt8.toInt32 &&& (65535 : Int32))), u.2.2.1, u.2.2.2.1, (u.2.2.2.2.1 + (1 : Int32)), u.2.2.2.2.2.1, u.2.2.2.2.2.2), rfl, pr2 e9, ⟨by rw [ht9]; exact hP, va_K.moved hW.alike hK, hD⟩⟩, hS.F ht9⟩) hS.2.2 dX1_putSigned_21
def fnA_doTwoOperands_176 (u : sA) : Option (Unit × sA) := some ((), u)
def fnA_doTwoOperands_153 (u : sA) (x1 : Int32) (x3 : Int32) (x6 : Int32) (x7 : Int32) : Option (Unit × sA) := if x6 = (2 : Int32) then (fnA_doTwoOperands_176 u) else (if x6 = (3 : Int32) then (fnA_doTwoOperands_176 u) else ((fnA_putResult u (x1 &&& (7 : Int32)) x7 x3).bind (fun r22 => fnA_doTwoOperands_176 r22.2)))
def fnA_doTwoOperands_87 (u : sA) (x1 : Int32) (x3 : Int32) (x4 : Int32) (x5 : Int32) (y0 : Int32) : Option (Unit × sA) := (fnW_takeWidth u.2.2.2.2.2.2 x3).bind (fun r11 => (fnW_ofTwo r11.2 y0 x4 x5).bind (fun r13 => if y0 = (1 : Int32) then (if x3 = 0 then (fnA_doTwoOperands_153 (u.1, u.2.1, u.2.2.1, u.2.2.2.1, (u.2.2.2.2.1 + (1 : Int32)), u.2.2.2.2.2.1, r13.2) x1 x3 y0 r13.1) else (if u.2.2.2.2.2.1 = (-1 : Int32) then ((fnA_putSigned (u.1, u.2.1, u.2.2.1, u.2.2.2.1, (u.2.2.2.2.1 + (1 : Int32)), u.2.2.2.2.2.1, r13.2) (x1 &&& (7 : Int32)) r13.1).bind (fun r18 => fnA_doTwoOperands_176 r18.2)) else (fnA_doTwoOperands_153 (u.1, u.2.1, u.2.2.1, u.2.2.2.1, (u.2.2.2.2.1 + (1 : Int32)), u.2.2.2.2.2.1, r13.2) x1 x3 y0 r13.1))) else (fnA_doTwoOperands_153 (u.1, u.2.1, u.2.2.1, u.2.2.2.1, (u.2.2.2.2.1 + (1 : Int32)), u.2.2.2.2.2.1, r13.2) x1 x3 y0 r13.1)))
def fnA_doTwoOperands_31 (u : sA) (x1 : Int32) (x2 : Int32) (y0 : Int32) : Option (Unit × sA) := (fnA_readOperand u ((x1 >>> ((6 : Int32) &&& 31)) &&& (63 : Int32)) y0).bind (fun r4 => if r4.1 = (-1 : Int32) then (some ((), r4.2)) else ((fnA_readOperand r4.2 (x1 &&& (63 : Int32)) y0).bind (fun r7 => if r7.1 = (-1 : Int32) then (some ((), r7.2)) else (if x2 = 0 then (fnA_doTwoOperands_87 r7.2 x1 y0 r4.1 r7.1 ((x1 >>> ((12 : Int32) &&& 31)) &&& (7 : Int32))) else (fnA_doTwoOperands_87 r7.2 x1 y0 r4.1 r7.1 (14 : Int32))))))
def fnA_doTwoOperands_30 (u : sA) (x1 : Int32) (x2 : Int32) : Option (Unit × sA) := fnA_doTwoOperands_31 u x1 x2 (0 : Int32)
def fnA_doTwoOperands_14 (u : sA) (x1 : Int32) (y0 : Int32) : Option (Unit × sA) := if y0 = 0 then (if (x1 &&& (32768 : Int32)) = 0 then (fnA_doTwoOperands_30 u x1 y0) else (fnA_doTwoOperands_31 u x1 y0 (1 : Int32))) else (fnA_doTwoOperands_30 u x1 y0)
def fnA_doTwoOperands (u : sA) (a1 : Int32) : Option (Unit × sA) := if (a1 >>> ((12 : Int32) &&& 31)) = (14 : Int32) then (fnA_doTwoOperands_14 u a1 (1 : Int32)) else (fnA_doTwoOperands_14 u a1 (0 : Int32))
set_option maxRecDepth 100000 in
set_option maxHeartbeats 4000000 in
theorem ctA_doTwoOperands (l : Launch) (D : va_G) (kI : ClassId) (tb : Nat) (o aw ar ak : Nat) (sz : Nat) (u : sA) (a1 : Int32) (tg : Unit × sA) (ht : fnA_doTwoOperands u a1 = some tg) : Met l yX1_doTwoOperands (Cond.code yX1_doTwoOperands cX1_doTwoOperands 8 none :: wAll) ({ frames := 3, cells := 0, slots := 0, locals := 72 } : Room) (va_Pc [.ref o, .int a1] (prA D kI tb o aw ar ak sz u)) (va_Qv (fun (v : sA) => v = tg.2) (poG D kI (clA o aw ar ak kI) (va_A (clA o aw ar ak kI u) sz)) (va_A (clA o aw ar ak kI u) sz)) 0 0 (va_A (clA o aw ar ak kI u) sz) := by
  refine mOfW (cc := cX1_doTwoOperands) (maxL := 8) (ret := none) (by decide) rfl ?_
  intro p e s m args below meth c s₁ Q R hQ hR B hml hv
  obtain ⟨rfl, hsz, hP, hK, hD0, hZ⟩ := hv
  have hx := B.exec
  have hb := B.bytes
  have hr := B.returns
  have hts := atoms_spec (ws := Cond.code yX1_doTwoOperands cX1_doTwoOperands 8 none :: wAll) B.pre
  have hw : ∀ {w : Cond}, w ∈ wAll → w.before _ s = true := fun {w} h => hts w (List.mem_cons_of_mem _ h)
  have hown : s.vm.findClass RX1 = some m.cls := findClass_of_methodNamed B.named
  have hlocks := B.notSynchronized
  have hRf : 3 ≤ R.frames := by rw [hR]; exact Nat.le_refl _
  have hRl : 72 ≤ R.locals := by rw [hR]; exact Nat.le_refl _
  subst hsz
  have hD := hD0.self (sz := s.heap.size)
  generalize hAe : va_A (clA o aw ar ak kI u) s.heap.size = A at hD hZ hQ
  have hA : ∀ q : Nat, s.heap.size ≤ q → A q := fun q h => by rw [← hAe]; exact Or.inr h
  have hl := lv_entry ([.ref o, .int a1]) (n := 8) (Nat.le_of_ble_eq_true rfl)
  rw [lg_entry_eq]
  generalize (lg_sl ([.ref o, .int a1]) ++ List.replicate (8 - (lg_sl ([.ref o, .int a1])).length) Slot.unset).toArray = ls at hl ⊢
  have hl : lv_has ls 8 [(0, .ref o), (1, .int a1)] := hl
  have hin0 : ∀ w ∈ u_ws RX1 TX1 7, w ∈ (Cond.code yX1_doTwoOperands cX1_doTwoOperands 8 none :: wAll) := fun w h => List.mem_cons_of_mem _ (w_flX1 w h)
  have hn108 : va_Nw (.methodLinkNest RX1 108 yX0_takeWidth "MicroMill") s := hZ.2.2 _ (by decide +kernel)
  have hn112 : va_Nw (.methodLinkNest RX1 112 yX0_ofTwo "MicroMill") s := hZ.2.2 _ (by decide +kernel)
  have K176 : ∀ (H : Heap) (locs : List Loc) (ls : Array Slot) (u : sA) , va_P D vwCl (clA o aw ar ak kI u) H → va_D A (clA o aw ar ak kI u) → va_S A s.heap H locs → lv_has ls 8 [] → fnA_doTwoOperands_176 u  = some tg → W p l e R s m ([.ref o, .int a1] : List Value).toArray below meth c H locs 0 0 Q (F0 m 176 ls []) := by
    intro H locs ls u  hP hD hS hl ht
    unfold fnA_doTwoOperands_176 at ht
    have e9 := Option.some.inj ht
    subst hQ
    exact W.vret hx hb hr (fun t ht9 hW => ⟨⟨u, rfl, pr2 e9, ⟨by rw [ht9]; exact hP, va_K.moved hW.alike hK, hD⟩⟩, hS.F ht9⟩) hS.2.2 dX1_doTwoOperands_176
  have K153 : ∀ (H : Heap) (locs : List Loc) (ls : Array Slot) (u : sA) (x1 : Int32) (x3 : Int32) (x6 : Int32) (x7 : Int32) , va_P D vwCl (clA o aw ar ak kI u) H → va_D A (clA o aw ar ak kI u) → va_S A s.heap H locs → lv_has ls 8 [(0, .ref o), (1, .int x1), (3, .int x3), (6, .int x6), (7, .int x7)] → fnA_doTwoOperands_153 u x1 x3 x6 x7 = some tg → W p l e R s m ([.ref o, .int a1] : List Value).toArray below meth c H locs 0 0 Q (F0 m 153 ls []) := by
    intro H locs ls u x1 x3 x6 x7 hP hD hS hl ht
    unfold fnA_doTwoOperands_153 at ht
    refine lv_iload hx hb dX1_doTwoOperands_153 (lv_at hl 3 rfl) ?_
    refine lv_iconst (v := (2 : Int32)) hx hb dX1_doTwoOperands_155 (by decide) ?_
    refine lv_icmp_eq (tgt := 176) hx hb dX1_doTwoOperands_156 (by decide) (fun g20 => ?_) (fun g20 => ?_)
    · have ht := (if_pos g20).symm.trans ht
      exact K176 _ _ _ u hP hD hS (lv_sub hl [] rfl) ht
    · have ht := (if_neg g20).symm.trans ht
      refine lv_iload hx hb dX1_doTwoOperands_159 (lv_at hl 3 rfl) ?_
      refine lv_iconst (v := (3 : Int32)) hx hb dX1_doTwoOperands_161 (by decide) ?_
      refine lv_icmp_eq (tgt := 176) hx hb dX1_doTwoOperands_162 (by decide) (fun g21 => ?_) (fun g21 => ?_)
      · have ht := (if_pos g21).symm.trans ht
        exact K176 _ _ _ u hP hD hS (lv_sub hl [] rfl) ht
      · have ht := (if_neg g21).symm.trans ht
        refine lv_aload_n hx hb dX1_doTwoOperands_165 rfl (lv_at hl 0 rfl) ?_
        refine lv_iload_n hx hb dX1_doTwoOperands_166 rfl (lv_at hl 1 rfl) ?_
        refine lv_bipush (v := (7 : Int32)) hx hb dX1_doTwoOperands_167 (by decide) ?_
        refine lv_iand hx hb dX1_doTwoOperands_169 ?_
        refine lv_iload hx hb dX1_doTwoOperands_170 (lv_at hl 4 rfl) ?_
        refine lv_iload_n hx hb dX1_doTwoOperands_172 rfl (lv_at hl 2 rfl) ?_
        obtain ⟨r22, h23, ht⟩ := ob_some ht
        refine kG_v (cl := clA o aw ar ak kI) (u := u) (va_runV (As := [.int (x1 &&& (7 : Int32)), .int x7, .int x3]) (rest := []) ⟨hx, hb, hml, hown, hts⟩ (ctA_putResult l D kI tb o aw ar ak H.size u (x1 &&& (7 : Int32)) x7 x3 r22 h23) (cwV 3 hts (gV w_m_X1_120 w_im_yX1_putResult w_sel_yX1_putResult w_init_MicroMill w_co_yX1_putResult) rfl rfl rfl (by decide +kernel) ⟨Nat.le_trans (Nat.le_of_ble_eq_true rfl) hRf, Nat.le_trans (Nat.le_of_ble_eq_true rfl) hRl⟩) (preA hK hP hD hS hA hZ _) rfl rfl hl.1 rfl (lv_room (Nat.le_of_ble_eq_true rfl)) dX1_doTwoOperands_173 ⟨Nat.zero_le _, Nat.zero_le _⟩) hD hS hA (fun H locs hP hD hS => ?_)
        exact K176 _ _ _ r22.2 hP hD hS (lv_sub hl [] rfl) ht
  have K87 : ∀ (H : Heap) (locs : List Loc) (ls : Array Slot) (u : sA) (x1 : Int32) (x3 : Int32) (x4 : Int32) (x5 : Int32) (y0 : Int32) , va_P D vwCl (clA o aw ar ak kI u) H → va_D A (clA o aw ar ak kI u) → va_S A s.heap H locs → lv_has ls 8 [(0, .ref o), (1, .int x1), (3, .int x3), (4, .int x4), (5, .int x5)] → fnA_doTwoOperands_87 u x1 x3 x4 x5 y0 = some tg → W p l e R s m ([.ref o, .int a1] : List Value).toArray below meth c H locs 0 0 Q (F0 m 87 ls [.int y0]) := by
    intro H locs ls u x1 x3 x4 x5 y0 hP hD hS hl ht
    unfold fnA_doTwoOperands_87 at ht
    refine lv_istore (lv' := [(6, .int y0), (0, .ref o), (1, .int x1), (3, .int x3), (4, .int x4), (5, .int x5)]) hx hb dX1_doTwoOperands_87 hl (by decide) rfl (fun ls hl => ?_)
    refine lv_aload_n hx hb dX1_doTwoOperands_89 rfl (lv_at hl 1 rfl) ?_
    refine va_get (D := D) (ci := 1) (v := .ref ak) (C := RX1) (T := TX1) (N := 7) hx hb hts hin0 hown hK hP 0 rfl rfl 2 (by decide) (hw w_f_X1_19) (fun _ h9 => h9) rfl dX1_doTwoOperands_90 ?_
    refine lv_iload_n hx hb dX1_doTwoOperands_93 rfl (lv_at hl 3 rfl) ?_
    obtain ⟨r11, h12, ht⟩ := ob_some ht
    refine kW_v (u := u) (va_runVN (As := [.int x3]) (rest := []) ⟨hx, hb, hml, hown, hts⟩ (ctW_takeWidth l D kI ak H.size u.2.2.2.2.2.2 x3 r11 h12) ⟨va_cnB 1 hts (gC w_co_yX0_takeWidth) rfl rfl rfl hn108 (hw w_init_MicroMill_Work) (by decide +kernel) ⟨Nat.le_trans (Nat.le_of_ble_eq_true rfl) hRf, Nat.le_trans (Nat.le_of_ble_eq_true rfl) hRl⟩, hw w_im_yX0_takeWidth, hw w_sel_yX0_takeWidth⟩ (preG (cl := clW ak) (u := u.2.2.2.2.2.2) (N := 6) (ci := 0) hK (hP.sub (ws' := clW ak u.2.2.2.2.2.2) [3] rfl) ((hD.sub (ws' := clW ak u.2.2.2.2.2.2) [3] (by decide) rfl).weaken (fun _ _ _ _ => trivial)) rfl rfl _) rfl rfl hl.1 rfl (lv_room (Nat.le_of_ble_eq_true rfl)) dX1_doTwoOperands_94 ⟨Nat.zero_le _, Nat.zero_le _⟩) hP hD hS hA (fun H locs hP hD hS => ?_)
    have hP : va_P D vwCl (clA o aw ar ak kI (u.1, u.2.1, u.2.2.1, u.2.2.2.1, u.2.2.2.2.1, u.2.2.2.2.2.1, r11.2)) H := hP
    have hD : va_D A (clA o aw ar ak kI (u.1, u.2.1, u.2.2.1, u.2.2.2.1, u.2.2.2.2.1, u.2.2.2.2.2.1, r11.2)) := hD
    refine lv_aload_n hx hb dX1_doTwoOperands_97 rfl (lv_at hl 1 rfl) ?_
    refine va_get (D := D) (ci := 1) (v := .ref ak) (C := RX1) (T := TX1) (N := 7) hx hb hts hin0 hown hK hP 0 rfl rfl 2 (by decide) (hw w_f_X1_19) (fun _ h9 => h9) rfl dX1_doTwoOperands_98 ?_
    refine lv_iload hx hb dX1_doTwoOperands_101 (lv_at hl 0 rfl) ?_
    refine lv_iload hx hb dX1_doTwoOperands_103 (lv_at hl 4 rfl) ?_
    refine lv_iload hx hb dX1_doTwoOperands_105 (lv_at hl 5 rfl) ?_
    obtain ⟨r13, h14, ht⟩ := ob_some ht
    refine kW_i (u := (u.1, u.2.1, u.2.2.1, u.2.2.2.1, u.2.2.2.2.1, u.2.2.2.2.2.1, r11.2)) (va_runVN (As := [.int y0, .int x4, .int x5]) (rest := []) ⟨hx, hb, hml, hown, hts⟩ (ctW_ofTwo l D kI ak H.size r11.2 y0 x4 x5 r13 h14) ⟨va_cnB 3 hts (gC w_co_yX0_ofTwo) rfl rfl rfl hn112 (hw w_init_MicroMill_Work) (by decide +kernel) ⟨Nat.le_trans (Nat.le_of_ble_eq_true rfl) hRf, Nat.le_trans (Nat.le_of_ble_eq_true rfl) hRl⟩, hw w_im_yX0_ofTwo, hw w_sel_yX0_ofTwo⟩ (preG (cl := clW ak) (u := r11.2) (N := 6) (ci := 0) hK (hP.sub (ws' := clW ak r11.2) [3] rfl) ((hD.sub (ws' := clW ak r11.2) [3] (by decide) rfl).weaken (fun _ _ _ _ => trivial)) rfl rfl _) rfl rfl hl.1 rfl (lv_room (Nat.le_of_ble_eq_true rfl)) dX1_doTwoOperands_107 ⟨Nat.zero_le _, Nat.zero_le _⟩) hP hD hS hA (fun H locs hP hD hS => ?_)
    have hP : va_P D vwCl (clA o aw ar ak kI (u.1, u.2.1, u.2.2.1, u.2.2.2.1, u.2.2.2.2.1, u.2.2.2.2.2.1, r13.2)) H := hP
    have hD : va_D A (clA o aw ar ak kI (u.1, u.2.1, u.2.2.1, u.2.2.2.1, u.2.2.2.2.1, u.2.2.2.2.2.1, r13.2)) := hD
    refine lv_istore (lv' := [(7, .int r13.1), (6, .int y0), (0, .ref o), (1, .int x1), (3, .int x3), (4, .int x4), (5, .int x5)]) hx hb dX1_doTwoOperands_110 hl (by decide) rfl (fun ls hl => ?_)
    refine lv_aload_n hx hb dX1_doTwoOperands_112 rfl (lv_at hl 2 rfl) ?_
    refine lv_dup hx hb dX1_doTwoOperands_113 rfl ?_
    refine va_get (D := D) (ci := 1) (v := .int u.2.2.2.2.1) (C := RX1) (T := TX1) (N := 7) hx hb hts hin0 hown hK hP 0 rfl rfl 5 (by decide) (hw w_f_X1_31) (fun _ h9 => h9) rfl dX1_doTwoOperands_114 ?_
    refine lv_iconst (v := (1 : Int32)) hx hb dX1_doTwoOperands_117 (by decide) ?_
    refine lv_iadd hx hb dX1_doTwoOperands_118 ?_
    refine va_put (D := D) (ci := 1) (v := .int (u.2.2.2.2.1 + (1 : Int32))) (ty := .int) (C := RX1) (T := TX1) (N := 7) hx hb hts hin0 tyX1 tyX1_ok nmX1 hown hK hP hD hS 0 rfl rfl 5 (by decide) (hw w_f_X1_31) (fun _ h9 => h9) rfl (by decide +kernel) rfl rfl (Nat.le_of_ble_eq_true rfl) dX1_doTwoOperands_119 (fun H locs hP hD hS => ?_)
    have hP : va_P D vwCl (clA o aw ar ak kI (u.1, u.2.1, u.2.2.1, u.2.2.2.1, (u.2.2.2.2.1 + (1 : Int32)), u.2.2.2.2.2.1, r13.2)) H := hP
    have hD : va_D A (clA o aw ar ak kI (u.1, u.2.1, u.2.2.1, u.2.2.2.1, (u.2.2.2.2.1 + (1 : Int32)), u.2.2.2.2.2.1, r13.2)) := hD
    refine lv_iload hx hb dX1_doTwoOperands_122 (lv_at hl 1 rfl) ?_
    refine lv_iconst (v := (1 : Int32)) hx hb dX1_doTwoOperands_124 (by decide) ?_
    refine lv_icmp_ne (tgt := 153) hx hb dX1_doTwoOperands_125 (by decide) (fun g15 => ?_) (fun g15 => ?_)
    · have ht := (if_neg g15).symm.trans ht
      exact K153 _ _ _ (u.1, u.2.1, u.2.2.1, u.2.2.2.1, (u.2.2.2.2.1 + (1 : Int32)), u.2.2.2.2.2.1, r13.2) x1 x3 y0 r13.1 hP hD hS (lv_sub hl [2, 3, 4, 1, 0] rfl) ht
    · have ht := (if_pos g15).symm.trans ht
      refine lv_iload_n hx hb dX1_doTwoOperands_128 rfl (lv_at hl 4 rfl) ?_
      refine lv_if_eq (tgt := 153) hx hb dX1_doTwoOperands_129 (by decide) (fun g16 => ?_) (fun g16 => ?_)
      · have ht := (if_pos g16).symm.trans ht
        exact K153 _ _ _ (u.1, u.2.1, u.2.2.1, u.2.2.2.1, (u.2.2.2.2.1 + (1 : Int32)), u.2.2.2.2.2.1, r13.2) x1 x3 y0 r13.1 hP hD hS (lv_sub hl [2, 3, 4, 1, 0] rfl) ht
      · have ht := (if_neg g16).symm.trans ht
        refine lv_aload_n hx hb dX1_doTwoOperands_132 rfl (lv_at hl 2 rfl) ?_
        refine va_get (D := D) (ci := 1) (v := .int u.2.2.2.2.2.1) (C := RX1) (T := TX1) (N := 7) hx hb hts hin0 hown hK hP 0 rfl rfl 6 (by decide) (hw w_f_X1_34) (fun _ h9 => h9) rfl dX1_doTwoOperands_133 ?_
        refine lv_iconst (v := (-1 : Int32)) hx hb dX1_doTwoOperands_136 (by decide) ?_
        refine lv_icmp_ne (tgt := 153) hx hb dX1_doTwoOperands_137 (by decide) (fun g17 => ?_) (fun g17 => ?_)
        · have ht := (if_neg g17).symm.trans ht
          exact K153 _ _ _ (u.1, u.2.1, u.2.2.1, u.2.2.2.1, (u.2.2.2.2.1 + (1 : Int32)), u.2.2.2.2.2.1, r13.2) x1 x3 y0 r13.1 hP hD hS (lv_sub hl [2, 3, 4, 1, 0] rfl) ht
        · have ht := (if_pos g17).symm.trans ht
          refine lv_aload_n hx hb dX1_doTwoOperands_140 rfl (lv_at hl 2 rfl) ?_
          refine lv_iload_n hx hb dX1_doTwoOperands_141 rfl (lv_at hl 3 rfl) ?_
          refine lv_bipush (v := (7 : Int32)) hx hb dX1_doTwoOperands_142 (by decide) ?_
          refine lv_iand hx hb dX1_doTwoOperands_144 ?_
          refine lv_iload hx hb dX1_doTwoOperands_145 (lv_at hl 0 rfl) ?_
          obtain ⟨r18, h19, ht⟩ := ob_some ht
          refine kG_v (cl := clA o aw ar ak kI) (u := (u.1, u.2.1, u.2.2.1, u.2.2.2.1, (u.2.2.2.2.1 + (1 : Int32)), u.2.2.2.2.2.1, r13.2)) (va_runV (As := [.int (x1 &&& (7 : Int32)), .int r13.1]) (rest := []) ⟨hx, hb, hml, hown, hts⟩ (ctA_putSigned l D kI tb o aw ar ak H.size (u.1, u.2.1, u.2.2.1, u.2.2.2.1, (u.2.2.2.2.1 + (1 : Int32)), u.2.2.2.2.2.1, r13.2) (x1 &&& (7 : Int32)) r13.1 r18 h19) (cwV 2 hts (gV w_m_X1_116 w_im_yX1_putSigned w_sel_yX1_putSigned w_init_MicroMill w_co_yX1_putSigned) rfl rfl rfl (by decide +kernel) ⟨Nat.le_trans (Nat.le_of_ble_eq_true rfl) hRf, Nat.le_trans (Nat.le_of_ble_eq_true rfl) hRl⟩) (preA hK hP hD hS hA hZ _) rfl rfl hl.1 rfl (lv_room (Nat.le_of_ble_eq_true rfl)) dX1_doTwoOperands_147 ⟨Nat.zero_le _, Nat.zero_le _⟩) hD hS hA (fun H locs hP hD hS => ?_)
          refine lv_goto (tgt := 176) hx hb dX1_doTwoOperands_150 (by decide) ?_
          exact K176 _ _ _ r18.2 hP hD hS (lv_sub hl [] rfl) ht
  have K31 : ∀ (H : Heap) (locs : List Loc) (ls : Array Slot) (u : sA) (x1 : Int32) (x2 : Int32) (y0 : Int32) , va_P D vwCl (clA o aw ar ak kI u) H → va_D A (clA o aw ar ak kI u) → va_S A s.heap H locs → lv_has ls 8 [(0, .ref o), (1, .int x1), (2, .int x2)] → fnA_doTwoOperands_31 u x1 x2 y0 = some tg → W p l e R s m ([.ref o, .int a1] : List Value).toArray below meth c H locs 0 0 Q (F0 m 31 ls [.int y0]) := by
    intro H locs ls u x1 x2 y0 hP hD hS hl ht
    unfold fnA_doTwoOperands_31 at ht
    refine lv_istore_n (lv' := [(3, .int y0), (0, .ref o), (1, .int x1), (2, .int x2)]) hx hb dX1_doTwoOperands_31 rfl hl (by decide) rfl (fun ls hl => ?_)
    refine lv_aload_n hx hb dX1_doTwoOperands_32 rfl (lv_at hl 1 rfl) ?_
    refine lv_iload_n hx hb dX1_doTwoOperands_33 rfl (lv_at hl 2 rfl) ?_
    refine lv_bipush (v := (6 : Int32)) hx hb dX1_doTwoOperands_34 (by decide) ?_
    refine lv_ishr hx hb dX1_doTwoOperands_36 ?_
    refine lv_bipush (v := (63 : Int32)) hx hb dX1_doTwoOperands_37 (by decide) ?_
    refine lv_iand hx hb dX1_doTwoOperands_39 ?_
    refine lv_iload_n hx hb dX1_doTwoOperands_40 rfl (lv_at hl 0 rfl) ?_
    obtain ⟨r4, h5, ht⟩ := ob_some ht
    refine kG_i (cl := clA o aw ar ak kI) (u := u) (va_runV (As := [.int ((x1 >>> ((6 : Int32) &&& 31)) &&& (63 : Int32)), .int y0]) (rest := []) ⟨hx, hb, hml, hown, hts⟩ (ctA_readOperand l D kI tb o aw ar ak H.size u ((x1 >>> ((6 : Int32) &&& 31)) &&& (63 : Int32)) y0 r4 h5) (cwV 2 hts (gV w_m_X1_104 w_im_yX1_readOperand w_sel_yX1_readOperand w_init_MicroMill w_co_yX1_readOperand) rfl rfl rfl (by decide +kernel) ⟨Nat.le_trans (Nat.le_of_ble_eq_true rfl) hRf, Nat.le_trans (Nat.le_of_ble_eq_true rfl) hRl⟩) (preA hK hP hD hS hA hZ _) rfl rfl hl.1 rfl (lv_room (Nat.le_of_ble_eq_true rfl)) dX1_doTwoOperands_41 ⟨Nat.zero_le _, Nat.zero_le _⟩) hD hS hA (fun H locs hP hD hS => ?_)
    refine lv_istore (lv' := [(4, .int r4.1), (3, .int y0), (0, .ref o), (1, .int x1), (2, .int x2)]) hx hb dX1_doTwoOperands_44 hl (by decide) rfl (fun ls hl => ?_)
    refine lv_iload hx hb dX1_doTwoOperands_46 (lv_at hl 0 rfl) ?_
    refine lv_iconst (v := (-1 : Int32)) hx hb dX1_doTwoOperands_48 (by decide) ?_
    refine lv_icmp_ne (tgt := 53) hx hb dX1_doTwoOperands_49 (by decide) (fun g6 => ?_) (fun g6 => ?_)
    · have ht := (if_neg g6).symm.trans ht
      refine lv_aload_n hx hb dX1_doTwoOperands_53 rfl (lv_at hl 2 rfl) ?_
      refine lv_iload_n hx hb dX1_doTwoOperands_54 rfl (lv_at hl 3 rfl) ?_
      refine lv_bipush (v := (63 : Int32)) hx hb dX1_doTwoOperands_55 (by decide) ?_
      refine lv_iand hx hb dX1_doTwoOperands_57 ?_
      refine lv_iload_n hx hb dX1_doTwoOperands_58 rfl (lv_at hl 1 rfl) ?_
      obtain ⟨r7, h8, ht⟩ := ob_some ht
      refine kG_i (cl := clA o aw ar ak kI) (u := r4.2) (va_runV (As := [.int (x1 &&& (63 : Int32)), .int y0]) (rest := []) ⟨hx, hb, hml, hown, hts⟩ (ctA_readOperand l D kI tb o aw ar ak H.size r4.2 (x1 &&& (63 : Int32)) y0 r7 h8) (cwV 2 hts (gV w_m_X1_104 w_im_yX1_readOperand w_sel_yX1_readOperand w_init_MicroMill w_co_yX1_readOperand) rfl rfl rfl (by decide +kernel) ⟨Nat.le_trans (Nat.le_of_ble_eq_true rfl) hRf, Nat.le_trans (Nat.le_of_ble_eq_true rfl) hRl⟩) (preA hK hP hD hS hA hZ _) rfl rfl hl.1 rfl (lv_room (Nat.le_of_ble_eq_true rfl)) dX1_doTwoOperands_59 ⟨Nat.zero_le _, Nat.zero_le _⟩) hD hS hA (fun H locs hP hD hS => ?_)
      refine lv_istore (lv' := [(5, .int r7.1), (4, .int r4.1), (3, .int y0), (0, .ref o), (1, .int x1), (2, .int x2)]) hx hb dX1_doTwoOperands_62 hl (by decide) rfl (fun ls hl => ?_)
      refine lv_iload hx hb dX1_doTwoOperands_64 (lv_at hl 0 rfl) ?_
      refine lv_iconst (v := (-1 : Int32)) hx hb dX1_doTwoOperands_66 (by decide) ?_
      refine lv_icmp_ne (tgt := 71) hx hb dX1_doTwoOperands_67 (by decide) (fun g9 => ?_) (fun g9 => ?_)
      · have ht := (if_neg g9).symm.trans ht
        refine lv_iload_n hx hb dX1_doTwoOperands_71 rfl (lv_at hl 5 rfl) ?_
        refine lv_if_eq (tgt := 80) hx hb dX1_doTwoOperands_72 (by decide) (fun g10 => ?_) (fun g10 => ?_)
        · have ht := (if_pos g10).symm.trans ht
          refine lv_iload_n hx hb dX1_doTwoOperands_80 rfl (lv_at hl 4 rfl) ?_
          refine lv_bipush (v := (12 : Int32)) hx hb dX1_doTwoOperands_81 (by decide) ?_
          refine lv_ishr hx hb dX1_doTwoOperands_83 ?_
          refine lv_bipush (v := (7 : Int32)) hx hb dX1_doTwoOperands_84 (by decide) ?_
          refine lv_iand hx hb dX1_doTwoOperands_86 ?_
          exact K87 _ _ _ r7.2 x1 y0 r4.1 r7.1 ((x1 >>> ((12 : Int32) &&& 31)) &&& (7 : Int32)) hP hD hS (lv_sub hl [3, 4, 2, 1, 0] rfl) ht
        · have ht := (if_neg g10).symm.trans ht
          refine lv_bipush (v := (14 : Int32)) hx hb dX1_doTwoOperands_75 (by decide) ?_
          refine lv_goto (tgt := 87) hx hb dX1_doTwoOperands_77 (by decide) ?_
          exact K87 _ _ _ r7.2 x1 y0 r4.1 r7.1 (14 : Int32) hP hD hS (lv_sub hl [3, 4, 2, 1, 0] rfl) ht
      · have ht := (if_pos g9).symm.trans ht
        have e9 := Option.some.inj ht
        subst hQ
        exact W.vret hx hb hr (fun t ht9 hW => ⟨⟨r7.2, rfl, pr2 e9, ⟨by rw [ht9]; exact hP, va_K.moved hW.alike hK, hD⟩⟩, hS.F ht9⟩) hS.2.2 dX1_doTwoOperands_70
    · have ht := (if_pos g6).symm.trans ht
      have e9 := Option.some.inj ht
      subst hQ
      exact W.vret hx hb hr (fun t ht9 hW => ⟨⟨r4.2, rfl, pr2 e9, ⟨by rw [ht9]; exact hP, va_K.moved hW.alike hK, hD⟩⟩, hS.F ht9⟩) hS.2.2 dX1_doTwoOperands_52
  have K30 : ∀ (H : Heap) (locs : List Loc) (ls : Array Slot) (u : sA) (x1 : Int32) (x2 : Int32) , va_P D vwCl (clA o aw ar ak kI u) H → va_D A (clA o aw ar ak kI u) → va_S A s.heap H locs → lv_has ls 8 [(0, .ref o), (1, .int x1), (2, .int x2)] → fnA_doTwoOperands_30 u x1 x2 = some tg → W p l e R s m ([.ref o, .int a1] : List Value).toArray below meth c H locs 0 0 Q (F0 m 30 ls []) := by
    intro H locs ls u x1 x2 hP hD hS hl ht
    unfold fnA_doTwoOperands_30 at ht
    refine lv_iconst (v := (0 : Int32)) hx hb dX1_doTwoOperands_30 (by decide) ?_
    exact K31 _ _ _ u x1 x2 (0 : Int32) hP hD hS (lv_sub hl [0, 1, 2] rfl) ht
  have K14 : ∀ (H : Heap) (locs : List Loc) (ls : Array Slot) (u : sA) (x1 : Int32) (y0 : Int32) , va_P D vwCl (clA o aw ar ak kI u) H → va_D A (clA o aw ar ak kI u) → va_S A s.heap H locs → lv_has ls 8 [(0, .ref o), (1, .int x1)] → fnA_doTwoOperands_14 u x1 y0 = some tg → W p l e R s m ([.ref o, .int a1] : List Value).toArray below meth c H locs 0 0 Q (F0 m 14 ls [.int y0]) := by
    intro H locs ls u x1 y0 hP hD hS hl ht
    unfold fnA_doTwoOperands_14 at ht
    refine lv_istore_n (lv' := [(2, .int y0), (0, .ref o), (1, .int x1)]) hx hb dX1_doTwoOperands_14 rfl hl (by decide) rfl (fun ls hl => ?_)
    refine lv_iload_n hx hb dX1_doTwoOperands_15 rfl (lv_at hl 0 rfl) ?_
    refine lv_if_ne (tgt := 30) hx hb dX1_doTwoOperands_16 (by decide) (fun g2 => ?_) (fun g2 => ?_)
    · have ht := (if_neg g2).symm.trans ht
      exact K30 _ _ _ u x1 y0 hP hD hS (lv_sub hl [1, 2, 0] rfl) ht
    · have ht := (if_pos g2).symm.trans ht
      refine lv_iload_n hx hb dX1_doTwoOperands_19 rfl (lv_at hl 2 rfl) ?_
      refine lv_ldc (v := (32768 : Int32)) hx hb hown (hw w_k_X1_103) dX1_doTwoOperands_20 ?_
      refine lv_iand hx hb dX1_doTwoOperands_22 ?_
      refine lv_if_eq (tgt := 30) hx hb dX1_doTwoOperands_23 (by decide) (fun g3 => ?_) (fun g3 => ?_)
      · have ht := (if_pos g3).symm.trans ht
        exact K30 _ _ _ u x1 y0 hP hD hS (lv_sub hl [1, 2, 0] rfl) ht
      · have ht := (if_neg g3).symm.trans ht
        refine lv_iconst (v := (1 : Int32)) hx hb dX1_doTwoOperands_26 (by decide) ?_
        refine lv_goto (tgt := 31) hx hb dX1_doTwoOperands_27 (by decide) ?_
        exact K31 _ _ _ u x1 y0 (1 : Int32) hP hD hS (lv_sub hl [1, 2, 0] rfl) ht
  unfold fnA_doTwoOperands at ht
  obtain ⟨H, hHe⟩ : ∃ H : Heap, H = s.heap := ⟨_, rfl⟩
  have hP : va_P D vwCl (clA o aw ar ak kI u) H := by rw [hHe]; exact hP
  have hS : va_S A s.heap H [] := by rw [hHe]; exact va_S.rf
  rw [← hHe]
  refine lv_iload_n hx hb dX1_doTwoOperands_0 rfl (lv_at hl 1 rfl) ?_
  refine lv_bipush (v := (12 : Int32)) hx hb dX1_doTwoOperands_1 (by decide) ?_
  refine lv_ishr hx hb dX1_doTwoOperands_3 ?_
  refine lv_bipush (v := (14 : Int32)) hx hb dX1_doTwoOperands_4 (by decide) ?_
  refine lv_icmp_ne (tgt := 13) hx hb dX1_doTwoOperands_6 (by decide) (fun g1 => ?_) (fun g1 => ?_)
  · have ht := (if_neg g1).symm.trans ht
    refine lv_iconst (v := (0 : Int32)) hx hb dX1_doTwoOperands_13 (by decide) ?_
    exact K14 _ _ _ u a1 (0 : Int32) hP hD hS (lv_sub hl [0, 1] rfl) ht
  · have ht := (if_pos g1).symm.trans ht
    refine lv_iconst (v := (1 : Int32)) hx hb dX1_doTwoOperands_9 (by decide) ?_
    refine lv_goto (tgt := 14) hx hb dX1_doTwoOperands_10 (by decide) ?_
    exact K14 _ _ _ u a1 (1 : Int32) hP hD hS (lv_sub hl [0, 1] rfl) ht
def fnA_isBranch_35 (y0 : Int32) : Option (Int32 × Unit) := if bok y0 then (some (y0, ())) else none
def fnA_isBranch_34 : Option (Int32 × Unit) := fnA_isBranch_35 (0 : Int32)
def fnA_isBranch_30 : Option (Int32 × Unit) := fnA_isBranch_35 (1 : Int32)
def fnA_isBranch_16 (x1 : Int32) : Option (Int32 × Unit) := if x1 < (128 : Int32) then fnA_isBranch_34 else (if (135 : Int32) < x1 then fnA_isBranch_34 else fnA_isBranch_30)
def fnA_isBranch (a1 : Int32) : Option (Int32 × Unit) := if (a1 >>> ((8 : Int32) &&& 31)) < (1 : Int32) then (fnA_isBranch_16 (a1 >>> ((8 : Int32) &&& 31))) else (if (a1 >>> ((8 : Int32) &&& 31)) ≤ (7 : Int32) then fnA_isBranch_30 else (fnA_isBranch_16 (a1 >>> ((8 : Int32) &&& 31))))
set_option maxRecDepth 100000 in
set_option maxHeartbeats 4000000 in
theorem ctA_isBranch (l : Launch) (sz : Nat) (a1 : Int32) (tg : Int32 × Unit) (ht : fnA_isBranch a1 = some tg) : Met l yX1_isBranch (Cond.code yX1_isBranch cX1_isBranch 2 (some .boolean) :: wAll) ({ frames := 0, cells := 0, slots := 0, locals := 0 } : Room) (va_Pc [.int a1] (prS sz)) (va_Qi (fun (x : Int32) (v : Unit) => x = tg.1 ∧ v = tg.2) poS (va_A [] sz)) 0 0 (va_A [] sz) := by
  refine mOfW (cc := cX1_isBranch) (maxL := 2) (ret := (some .boolean)) (by decide) rfl ?_
  intro p e s m args below meth c s₁ Q R hQ hR B hml hv
  obtain ⟨rfl, hsz⟩ := hv
  have hx := B.exec
  have hb := B.bytes
  have hr := B.returns
  have hts := atoms_spec (ws := Cond.code yX1_isBranch cX1_isBranch 2 (some .boolean) :: wAll) B.pre
  have hw : ∀ {w : Cond}, w ∈ wAll → w.before _ s = true := fun {w} h => hts w (List.mem_cons_of_mem _ h)
  have hown : s.vm.findClass RX1 = some m.cls := findClass_of_methodNamed B.named
  have hlocks := B.notSynchronized
  have hRf : 0 ≤ R.frames := by rw [hR]; exact Nat.le_refl _
  have hRl : 0 ≤ R.locals := by rw [hR]; exact Nat.le_refl _
  unfold prS at hsz
  subst hsz
  generalize hAe : va_A [] s.heap.size = A at hQ
  have hA : ∀ q : Nat, s.heap.size ≤ q → A q := fun q h => by rw [← hAe]; exact Or.inr h
  have hl := lv_entry ([.int a1]) (n := 2) (Nat.le_of_ble_eq_true rfl)
  rw [lg_entry_eq]
  generalize (lg_sl ([.int a1]) ++ List.replicate (2 - (lg_sl ([.int a1])).length) Slot.unset).toArray = ls at hl ⊢
  have hl : lv_has ls 2 [(0, .int a1)] := hl
  have K35 : ∀ (H : Heap) (locs : List Loc) (ls : Array Slot) (y0 : Int32) , va_S A s.heap H locs → lv_has ls 2 [] → fnA_isBranch_35 y0 = some tg → W p l e R s m ([.int a1] : List Value).toArray below meth c H locs 0 0 Q (F0 m 35 ls [.int y0]) := by
    intro H locs ls y0 hS hl ht
    unfold fnA_isBranch_35 at ht
    obtain ⟨b5, ht⟩ := oi_some ht
    have e9 := Option.some.inj ht
    subst hQ
    exact W.zret (ty := .boolean) (v := y0) hx hb hr (bok_n b5) (fun t ht9 hW => ⟨⟨y0, (), rfl, ⟨pr1 e9, pr2 e9⟩, trivial⟩, hS.F ht9⟩) hS.2.2 dX1_isBranch_35
  have K34 : ∀ (H : Heap) (locs : List Loc) (ls : Array Slot) , va_S A s.heap H locs → lv_has ls 2 [] → fnA_isBranch_34  = some tg → W p l e R s m ([.int a1] : List Value).toArray below meth c H locs 0 0 Q (F0 m 34 ls []) := by
    intro H locs ls  hS hl ht
    unfold fnA_isBranch_34 at ht
    refine lv_iconst (v := (0 : Int32)) hx hb dX1_isBranch_34 (by decide) ?_
    exact K35 _ _ _ (0 : Int32) hS (lv_sub hl [] rfl) ht
  have K30 : ∀ (H : Heap) (locs : List Loc) (ls : Array Slot) , va_S A s.heap H locs → lv_has ls 2 [] → fnA_isBranch_30  = some tg → W p l e R s m ([.int a1] : List Value).toArray below meth c H locs 0 0 Q (F0 m 30 ls []) := by
    intro H locs ls  hS hl ht
    unfold fnA_isBranch_30 at ht
    refine lv_iconst (v := (1 : Int32)) hx hb dX1_isBranch_30 (by decide) ?_
    refine lv_goto (tgt := 35) hx hb dX1_isBranch_31 (by decide) ?_
    exact K35 _ _ _ (1 : Int32) hS (lv_sub hl [] rfl) ht
  have K16 : ∀ (H : Heap) (locs : List Loc) (ls : Array Slot) (x1 : Int32) , va_S A s.heap H locs → lv_has ls 2 [(1, .int x1)] → fnA_isBranch_16 x1 = some tg → W p l e R s m ([.int a1] : List Value).toArray below meth c H locs 0 0 Q (F0 m 16 ls []) := by
    intro H locs ls x1 hS hl ht
    unfold fnA_isBranch_16 at ht
    refine lv_iload_n hx hb dX1_isBranch_16 rfl (lv_at hl 0 rfl) ?_
    refine lv_sipush (v := (128 : Int32)) hx hb dX1_isBranch_17 (by decide) ?_
    refine lv_icmp_lt (tgt := 34) hx hb dX1_isBranch_20 (by decide) (fun g3 => ?_) (fun g3 => ?_)
    · have ht := (if_pos g3).symm.trans ht
      exact K34 _ _ _  hS (lv_sub hl [] rfl) ht
    · have ht := (if_neg g3).symm.trans ht
      refine lv_iload_n hx hb dX1_isBranch_23 rfl (lv_at hl 0 rfl) ?_
      refine lv_sipush (v := (135 : Int32)) hx hb dX1_isBranch_24 (by decide) ?_
      refine lv_icmp_gt (tgt := 34) hx hb dX1_isBranch_27 (by decide) (fun g4 => ?_) (fun g4 => ?_)
      · have ht := (if_pos g4).symm.trans ht
        exact K34 _ _ _  hS (lv_sub hl [] rfl) ht
      · have ht := (if_neg g4).symm.trans ht
        exact K30 _ _ _  hS (lv_sub hl [] rfl) ht
  unfold fnA_isBranch at ht
  obtain ⟨H, hHe⟩ : ∃ H : Heap, H = s.heap := ⟨_, rfl⟩
  have hS : va_S A s.heap H [] := by rw [hHe]; exact va_S.rf
  rw [← hHe]
  refine lv_iload_n hx hb dX1_isBranch_0 rfl (lv_at hl 0 rfl) ?_
  refine lv_bipush (v := (8 : Int32)) hx hb dX1_isBranch_1 (by decide) ?_
  refine lv_ishr hx hb dX1_isBranch_3 ?_
  refine lv_istore_n (lv' := [(1, .int (a1 >>> ((8 : Int32) &&& 31))), (0, .int a1)]) hx hb dX1_isBranch_4 rfl hl (by decide) rfl (fun ls hl => ?_)
  refine lv_iload_n hx hb dX1_isBranch_5 rfl (lv_at hl 0 rfl) ?_
  refine lv_iconst (v := (1 : Int32)) hx hb dX1_isBranch_6 (by decide) ?_
  refine lv_icmp_lt (tgt := 16) hx hb dX1_isBranch_7 (by decide) (fun g1 => ?_) (fun g1 => ?_)
  · have ht := (if_pos g1).symm.trans ht
    exact K16 _ _ _ (a1 >>> ((8 : Int32) &&& 31)) hS (lv_sub hl [0] rfl) ht
  · have ht := (if_neg g1).symm.trans ht
    refine lv_iload_n hx hb dX1_isBranch_10 rfl (lv_at hl 0 rfl) ?_
    refine lv_bipush (v := (7 : Int32)) hx hb dX1_isBranch_11 (by decide) ?_
    refine lv_icmp_le (tgt := 30) hx hb dX1_isBranch_13 (by decide) (fun g2 => ?_) (fun g2 => ?_)
    · have ht := (if_pos g2).symm.trans ht
      exact K30 _ _ _  hS (lv_sub hl [] rfl) ht
    · have ht := (if_neg g2).symm.trans ht
      exact K16 _ _ _ (a1 >>> ((8 : Int32) &&& 31)) hS (lv_sub hl [0] rfl) ht
def fnA_isOfOneOperand_33 (y0 : Int32) : Option (Int32 × Unit) := if bok y0 then (some (y0, ())) else none
def fnA_isOfOneOperand_28 : Option (Int32 × Unit) := fnA_isOfOneOperand_33 (1 : Int32)
def fnA_isOfOneOperand_20 (x0 : Int32) : Option (Int32 × Unit) := if (x0 >>> ((6 : Int32) &&& 31)) = (3 : Int32) then fnA_isOfOneOperand_28 else (fnA_isOfOneOperand_33 (0 : Int32))
def fnA_isOfOneOperand (a1 : Int32) : Option (Int32 × Unit) := if ((a1 &&& (-32769 : Int32)) >>> ((6 : Int32) &&& 31)) < (40 : Int32) then (fnA_isOfOneOperand_20 a1) else (if ((a1 &&& (-32769 : Int32)) >>> ((6 : Int32) &&& 31)) ≤ (51 : Int32) then fnA_isOfOneOperand_28 else (fnA_isOfOneOperand_20 a1))
set_option maxRecDepth 100000 in
set_option maxHeartbeats 4000000 in
theorem ctA_isOfOneOperand (l : Launch) (sz : Nat) (a1 : Int32) (tg : Int32 × Unit) (ht : fnA_isOfOneOperand a1 = some tg) : Met l yX1_isOfOneOperand (Cond.code yX1_isOfOneOperand cX1_isOfOneOperand 2 (some .boolean) :: wAll) ({ frames := 0, cells := 0, slots := 0, locals := 0 } : Room) (va_Pc [.int a1] (prS sz)) (va_Qi (fun (x : Int32) (v : Unit) => x = tg.1 ∧ v = tg.2) poS (va_A [] sz)) 0 0 (va_A [] sz) := by
  refine mOfW (cc := cX1_isOfOneOperand) (maxL := 2) (ret := (some .boolean)) (by decide) rfl ?_
  intro p e s m args below meth c s₁ Q R hQ hR B hml hv
  obtain ⟨rfl, hsz⟩ := hv
  have hx := B.exec
  have hb := B.bytes
  have hr := B.returns
  have hts := atoms_spec (ws := Cond.code yX1_isOfOneOperand cX1_isOfOneOperand 2 (some .boolean) :: wAll) B.pre
  have hw : ∀ {w : Cond}, w ∈ wAll → w.before _ s = true := fun {w} h => hts w (List.mem_cons_of_mem _ h)
  have hown : s.vm.findClass RX1 = some m.cls := findClass_of_methodNamed B.named
  have hlocks := B.notSynchronized
  have hRf : 0 ≤ R.frames := by rw [hR]; exact Nat.le_refl _
  have hRl : 0 ≤ R.locals := by rw [hR]; exact Nat.le_refl _
  unfold prS at hsz
  subst hsz
  generalize hAe : va_A [] s.heap.size = A at hQ
  have hA : ∀ q : Nat, s.heap.size ≤ q → A q := fun q h => by rw [← hAe]; exact Or.inr h
  have hl := lv_entry ([.int a1]) (n := 2) (Nat.le_of_ble_eq_true rfl)
  rw [lg_entry_eq]
  generalize (lg_sl ([.int a1]) ++ List.replicate (2 - (lg_sl ([.int a1])).length) Slot.unset).toArray = ls at hl ⊢
  have hl : lv_has ls 2 [(0, .int a1)] := hl
  have K33 : ∀ (H : Heap) (locs : List Loc) (ls : Array Slot) (y0 : Int32) , va_S A s.heap H locs → lv_has ls 2 [] → fnA_isOfOneOperand_33 y0 = some tg → W p l e R s m ([.int a1] : List Value).toArray below meth c H locs 0 0 Q (F0 m 33 ls [.int y0]) := by
    intro H locs ls y0 hS hl ht
    unfold fnA_isOfOneOperand_33 at ht
    obtain ⟨b4, ht⟩ := oi_some ht
    have e9 := Option.some.inj ht
    subst hQ
    exact W.zret (ty := .boolean) (v := y0) hx hb hr (bok_n b4) (fun t ht9 hW => ⟨⟨y0, (), rfl, ⟨pr1 e9, pr2 e9⟩, trivial⟩, hS.F ht9⟩) hS.2.2 dX1_isOfOneOperand_33
  have K28 : ∀ (H : Heap) (locs : List Loc) (ls : Array Slot) , va_S A s.heap H locs → lv_has ls 2 [] → fnA_isOfOneOperand_28  = some tg → W p l e R s m ([.int a1] : List Value).toArray below meth c H locs 0 0 Q (F0 m 28 ls []) := by
    intro H locs ls  hS hl ht
    unfold fnA_isOfOneOperand_28 at ht
    refine lv_iconst (v := (1 : Int32)) hx hb dX1_isOfOneOperand_28 (by decide) ?_
    refine lv_goto (tgt := 33) hx hb dX1_isOfOneOperand_29 (by decide) ?_
    exact K33 _ _ _ (1 : Int32) hS (lv_sub hl [] rfl) ht
  have K20 : ∀ (H : Heap) (locs : List Loc) (ls : Array Slot) (x0 : Int32) , va_S A s.heap H locs → lv_has ls 2 [(0, .int x0)] → fnA_isOfOneOperand_20 x0 = some tg → W p l e R s m ([.int a1] : List Value).toArray below meth c H locs 0 0 Q (F0 m 20 ls []) := by
    intro H locs ls x0 hS hl ht
    unfold fnA_isOfOneOperand_20 at ht
    refine lv_iload_n hx hb dX1_isOfOneOperand_20 rfl (lv_at hl 0 rfl) ?_
    refine lv_bipush (v := (6 : Int32)) hx hb dX1_isOfOneOperand_21 (by decide) ?_
    refine lv_ishr hx hb dX1_isOfOneOperand_23 ?_
    refine lv_iconst (v := (3 : Int32)) hx hb dX1_isOfOneOperand_24 (by decide) ?_
    refine lv_icmp_ne (tgt := 32) hx hb dX1_isOfOneOperand_25 (by decide) (fun g3 => ?_) (fun g3 => ?_)
    · have ht := (if_neg g3).symm.trans ht
      refine lv_iconst (v := (0 : Int32)) hx hb dX1_isOfOneOperand_32 (by decide) ?_
      exact K33 _ _ _ (0 : Int32) hS (lv_sub hl [] rfl) ht
    · have ht := (if_pos g3).symm.trans ht
      exact K28 _ _ _  hS (lv_sub hl [] rfl) ht
  unfold fnA_isOfOneOperand at ht
  obtain ⟨H, hHe⟩ : ∃ H : Heap, H = s.heap := ⟨_, rfl⟩
  have hS : va_S A s.heap H [] := by rw [hHe]; exact va_S.rf
  rw [← hHe]
  refine lv_iload_n hx hb dX1_isOfOneOperand_0 rfl (lv_at hl 0 rfl) ?_
  refine lv_ldc (v := (-32769 : Int32)) hx hb hown (hw w_k_X1_102) dX1_isOfOneOperand_1 ?_
  refine lv_iand hx hb dX1_isOfOneOperand_3 ?_
  refine lv_bipush (v := (6 : Int32)) hx hb dX1_isOfOneOperand_4 (by decide) ?_
  refine lv_ishr hx hb dX1_isOfOneOperand_6 ?_
  refine lv_istore_n (lv' := [(1, .int ((a1 &&& (-32769 : Int32)) >>> ((6 : Int32) &&& 31))), (0, .int a1)]) hx hb dX1_isOfOneOperand_7 rfl hl (by decide) rfl (fun ls hl => ?_)
  refine lv_iload_n hx hb dX1_isOfOneOperand_8 rfl (lv_at hl 0 rfl) ?_
  refine lv_bipush (v := (40 : Int32)) hx hb dX1_isOfOneOperand_9 (by decide) ?_
  refine lv_icmp_lt (tgt := 20) hx hb dX1_isOfOneOperand_11 (by decide) (fun g1 => ?_) (fun g1 => ?_)
  · have ht := (if_pos g1).symm.trans ht
    exact K20 _ _ _ a1 hS (lv_sub hl [1] rfl) ht
  · have ht := (if_neg g1).symm.trans ht
    refine lv_iload_n hx hb dX1_isOfOneOperand_14 rfl (lv_at hl 0 rfl) ?_
    refine lv_bipush (v := (51 : Int32)) hx hb dX1_isOfOneOperand_15 (by decide) ?_
    refine lv_icmp_le (tgt := 28) hx hb dX1_isOfOneOperand_17 (by decide) (fun g2 => ?_) (fun g2 => ?_)
    · have ht := (if_pos g2).symm.trans ht
      exact K28 _ _ _  hS (lv_sub hl [] rfl) ht
    · have ht := (if_neg g2).symm.trans ht
      exact K20 _ _ _ a1 hS (lv_sub hl [1] rfl) ht
def fnA_isOfTwoOperands_24 (y0 : Int32) : Option (Int32 × Unit) := if bok y0 then (some (y0, ())) else none
def fnA_isOfTwoOperands_23 : Option (Int32 × Unit) := fnA_isOfTwoOperands_24 (0 : Int32)
def fnA_isOfTwoOperands (a1 : Int32) : Option (Int32 × Unit) := if ((a1 >>> ((12 : Int32) &&& 31)) &&& (7 : Int32)) < (1 : Int32) then fnA_isOfTwoOperands_23 else (if (6 : Int32) < ((a1 >>> ((12 : Int32) &&& 31)) &&& (7 : Int32)) then fnA_isOfTwoOperands_23 else (fnA_isOfTwoOperands_24 (1 : Int32)))
set_option maxRecDepth 100000 in
set_option maxHeartbeats 4000000 in
theorem ctA_isOfTwoOperands (l : Launch) (sz : Nat) (a1 : Int32) (tg : Int32 × Unit) (ht : fnA_isOfTwoOperands a1 = some tg) : Met l yX1_isOfTwoOperands (Cond.code yX1_isOfTwoOperands cX1_isOfTwoOperands 2 (some .boolean) :: wAll) ({ frames := 0, cells := 0, slots := 0, locals := 0 } : Room) (va_Pc [.int a1] (prS sz)) (va_Qi (fun (x : Int32) (v : Unit) => x = tg.1 ∧ v = tg.2) poS (va_A [] sz)) 0 0 (va_A [] sz) := by
  refine mOfW (cc := cX1_isOfTwoOperands) (maxL := 2) (ret := (some .boolean)) (by decide) rfl ?_
  intro p e s m args below meth c s₁ Q R hQ hR B hml hv
  obtain ⟨rfl, hsz⟩ := hv
  have hx := B.exec
  have hb := B.bytes
  have hr := B.returns
  have hts := atoms_spec (ws := Cond.code yX1_isOfTwoOperands cX1_isOfTwoOperands 2 (some .boolean) :: wAll) B.pre
  have hw : ∀ {w : Cond}, w ∈ wAll → w.before _ s = true := fun {w} h => hts w (List.mem_cons_of_mem _ h)
  have hown : s.vm.findClass RX1 = some m.cls := findClass_of_methodNamed B.named
  have hlocks := B.notSynchronized
  have hRf : 0 ≤ R.frames := by rw [hR]; exact Nat.le_refl _
  have hRl : 0 ≤ R.locals := by rw [hR]; exact Nat.le_refl _
  unfold prS at hsz
  subst hsz
  generalize hAe : va_A [] s.heap.size = A at hQ
  have hA : ∀ q : Nat, s.heap.size ≤ q → A q := fun q h => by rw [← hAe]; exact Or.inr h
  have hl := lv_entry ([.int a1]) (n := 2) (Nat.le_of_ble_eq_true rfl)
  rw [lg_entry_eq]
  generalize (lg_sl ([.int a1]) ++ List.replicate (2 - (lg_sl ([.int a1])).length) Slot.unset).toArray = ls at hl ⊢
  have hl : lv_has ls 2 [(0, .int a1)] := hl
  have K24 : ∀ (H : Heap) (locs : List Loc) (ls : Array Slot) (y0 : Int32) , va_S A s.heap H locs → lv_has ls 2 [] → fnA_isOfTwoOperands_24 y0 = some tg → W p l e R s m ([.int a1] : List Value).toArray below meth c H locs 0 0 Q (F0 m 24 ls [.int y0]) := by
    intro H locs ls y0 hS hl ht
    unfold fnA_isOfTwoOperands_24 at ht
    obtain ⟨b3, ht⟩ := oi_some ht
    have e9 := Option.some.inj ht
    subst hQ
    exact W.zret (ty := .boolean) (v := y0) hx hb hr (bok_n b3) (fun t ht9 hW => ⟨⟨y0, (), rfl, ⟨pr1 e9, pr2 e9⟩, trivial⟩, hS.F ht9⟩) hS.2.2 dX1_isOfTwoOperands_24
  have K23 : ∀ (H : Heap) (locs : List Loc) (ls : Array Slot) , va_S A s.heap H locs → lv_has ls 2 [] → fnA_isOfTwoOperands_23  = some tg → W p l e R s m ([.int a1] : List Value).toArray below meth c H locs 0 0 Q (F0 m 23 ls []) := by
    intro H locs ls  hS hl ht
    unfold fnA_isOfTwoOperands_23 at ht
    refine lv_iconst (v := (0 : Int32)) hx hb dX1_isOfTwoOperands_23 (by decide) ?_
    exact K24 _ _ _ (0 : Int32) hS (lv_sub hl [] rfl) ht
  unfold fnA_isOfTwoOperands at ht
  obtain ⟨H, hHe⟩ : ∃ H : Heap, H = s.heap := ⟨_, rfl⟩
  have hS : va_S A s.heap H [] := by rw [hHe]; exact va_S.rf
  rw [← hHe]
  refine lv_iload_n hx hb dX1_isOfTwoOperands_0 rfl (lv_at hl 0 rfl) ?_
  refine lv_bipush (v := (12 : Int32)) hx hb dX1_isOfTwoOperands_1 (by decide) ?_
  refine lv_ishr hx hb dX1_isOfTwoOperands_3 ?_
  refine lv_bipush (v := (7 : Int32)) hx hb dX1_isOfTwoOperands_4 (by decide) ?_
  refine lv_iand hx hb dX1_isOfTwoOperands_6 ?_
  refine lv_istore_n (lv' := [(1, .int ((a1 >>> ((12 : Int32) &&& 31)) &&& (7 : Int32))), (0, .int a1)]) hx hb dX1_isOfTwoOperands_7 rfl hl (by decide) rfl (fun ls hl => ?_)
  refine lv_iload_n hx hb dX1_isOfTwoOperands_8 rfl (lv_at hl 0 rfl) ?_
  refine lv_iconst (v := (1 : Int32)) hx hb dX1_isOfTwoOperands_9 (by decide) ?_
  refine lv_icmp_lt (tgt := 23) hx hb dX1_isOfTwoOperands_10 (by decide) (fun g1 => ?_) (fun g1 => ?_)
  · have ht := (if_pos g1).symm.trans ht
    exact K23 _ _ _  hS (lv_sub hl [] rfl) ht
  · have ht := (if_neg g1).symm.trans ht
    refine lv_iload_n hx hb dX1_isOfTwoOperands_13 rfl (lv_at hl 0 rfl) ?_
    refine lv_bipush (v := (6 : Int32)) hx hb dX1_isOfTwoOperands_14 (by decide) ?_
    refine lv_icmp_gt (tgt := 23) hx hb dX1_isOfTwoOperands_16 (by decide) (fun g2 => ?_) (fun g2 => ?_)
    · have ht := (if_pos g2).symm.trans ht
      exact K23 _ _ _  hS (lv_sub hl [] rfl) ht
    · have ht := (if_neg g2).symm.trans ht
      refine lv_iconst (v := (1 : Int32)) hx hb dX1_isOfTwoOperands_19 (by decide) ?_
      refine lv_goto (tgt := 24) hx hb dX1_isOfTwoOperands_20 (by decide) ?_
      exact K24 _ _ _ (1 : Int32) hS (lv_sub hl [] rfl) ht
def fnA_perform_148 (u : sA) : Option (Unit × sA) := some ((), u)
def fnA_perform_145 (u : sA) (y0 : Int32) : Option (Unit × sA) := fnA_perform_148 (u.1, u.2.1, y0, u.2.2.2.1, u.2.2.2.2.1, u.2.2.2.2.2.1, u.2.2.2.2.2.2)
def fnA_perform_135 (u : sA) (x1 : Int32) : Option (Unit × sA) := if x1 = 0 then (fnA_perform_145 u (1 : Int32)) else (fnA_perform_145 u (2 : Int32))
def fnA_perform (u : sA) (a1 : Int32) : Option (Unit × sA) := (fnA_isOfTwoOperands a1).bind (fun r1 => if r1.1 = 0 then ((fnA_isOfOneOperand a1).bind (fun r4 => if r4.1 = 0 then ((fnA_isBranch a1).bind (fun r7 => if r7.1 = 0 then (if (a1 >>> ((9 : Int32) &&& 31)) = (63 : Int32) then ((fnA_doSubtractAndBranch u a1).bind (fun r24 => fnA_perform_148 r24.2)) else (if (a1 >>> ((6 : Int32) &&& 31)) = (1 : Int32) then ((fnA_doJump u a1).bind (fun r22 => fnA_perform_148 r22.2)) else (if (a1 >>> ((9 : Int32) &&& 31)) = (4 : Int32) then ((fnA_doJumpToSubroutine u a1).bind (fun r20 => fnA_perform_148 r20.2)) else (if (a1 >>> ((3 : Int32) &&& 31)) = (16 : Int32) then ((fnA_doReturn u (a1 &&& (7 : Int32))).bind (fun r18 => fnA_perform_148 r18.2)) else (if a1 < (160 : Int32) then (fnA_perform_135 u a1) else (if (191 : Int32) < a1 then (fnA_perform_135 u a1) else ((fnA_doFlags u a1).bind (fun r16 => fnA_perform_148 r16.2)))))))) else ((fnA_doBranch u a1).bind (fun r26 => fnA_perform_148 r26.2)))) else ((fnA_doOneOperand u a1).bind (fun r28 => fnA_perform_148 r28.2)))) else ((fnA_doTwoOperands u a1).bind (fun r30 => fnA_perform_148 r30.2)))
set_option maxRecDepth 100000 in
set_option maxHeartbeats 4000000 in
theorem ctA_perform (l : Launch) (D : va_G) (kI : ClassId) (tb : Nat) (o aw ar ak : Nat) (sz : Nat) (u : sA) (a1 : Int32) (tg : Unit × sA) (ht : fnA_perform u a1 = some tg) : Met l yX1_perform (Cond.code yX1_perform cX1_perform 2 none :: wAll) ({ frames := 4, cells := 0, slots := 0, locals := 99 } : Room) (va_Pc [.ref o, .int a1] (prA D kI tb o aw ar ak sz u)) (va_Qv (fun (v : sA) => v = tg.2) (poG D kI (clA o aw ar ak kI) (va_A (clA o aw ar ak kI u) sz)) (va_A (clA o aw ar ak kI u) sz)) 0 0 (va_A (clA o aw ar ak kI u) sz) := by
  refine mOfW (cc := cX1_perform) (maxL := 2) (ret := none) (by decide) rfl ?_
  intro p e s m args below meth c s₁ Q R hQ hR B hml hv
  obtain ⟨rfl, hsz, hP, hK, hD0, hZ⟩ := hv
  have hx := B.exec
  have hb := B.bytes
  have hr := B.returns
  have hts := atoms_spec (ws := Cond.code yX1_perform cX1_perform 2 none :: wAll) B.pre
  have hw : ∀ {w : Cond}, w ∈ wAll → w.before _ s = true := fun {w} h => hts w (List.mem_cons_of_mem _ h)
  have hown : s.vm.findClass RX1 = some m.cls := findClass_of_methodNamed B.named
  have hlocks := B.notSynchronized
  have hRf : 4 ≤ R.frames := by rw [hR]; exact Nat.le_refl _
  have hRl : 99 ≤ R.locals := by rw [hR]; exact Nat.le_refl _
  subst hsz
  have hD := hD0.self (sz := s.heap.size)
  generalize hAe : va_A (clA o aw ar ak kI u) s.heap.size = A at hD hZ hQ
  have hA : ∀ q : Nat, s.heap.size ≤ q → A q := fun q h => by rw [← hAe]; exact Or.inr h
  have hl := lv_entry ([.ref o, .int a1]) (n := 2) (Nat.le_of_ble_eq_true rfl)
  rw [lg_entry_eq]
  generalize (lg_sl ([.ref o, .int a1]) ++ List.replicate (2 - (lg_sl ([.ref o, .int a1])).length) Slot.unset).toArray = ls at hl ⊢
  have hl : lv_has ls 2 [(0, .ref o), (1, .int a1)] := hl
  have hin0 : ∀ w ∈ u_ws RX1 TX1 7, w ∈ (Cond.code yX1_perform cX1_perform 2 none :: wAll) := fun w h => List.mem_cons_of_mem _ (w_flX1 w h)
  have K148 : ∀ (H : Heap) (locs : List Loc) (ls : Array Slot) (u : sA) , va_P D vwCl (clA o aw ar ak kI u) H → va_D A (clA o aw ar ak kI u) → va_S A s.heap H locs → lv_has ls 2 [] → fnA_perform_148 u  = some tg → W p l e R s m ([.ref o, .int a1] : List Value).toArray below meth c H locs 0 0 Q (F0 m 148 ls []) := by
    intro H locs ls u  hP hD hS hl ht
    unfold fnA_perform_148 at ht
    have e9 := Option.some.inj ht
    subst hQ
    exact W.vret hx hb hr (fun t ht9 hW => ⟨⟨u, rfl, pr2 e9, ⟨by rw [ht9]; exact hP, va_K.moved hW.alike hK, hD⟩⟩, hS.F ht9⟩) hS.2.2 dX1_perform_148
  have K145 : ∀ (H : Heap) (locs : List Loc) (ls : Array Slot) (u : sA) (y0 : Int32) , va_P D vwCl (clA o aw ar ak kI u) H → va_D A (clA o aw ar ak kI u) → va_S A s.heap H locs → lv_has ls 2 [] → fnA_perform_145 u y0 = some tg → W p l e R s m ([.ref o, .int a1] : List Value).toArray below meth c H locs 0 0 Q (F0 m 145 ls [.int y0, .ref o]) := by
    intro H locs ls u y0 hP hD hS hl ht
    unfold fnA_perform_145 at ht
    refine va_put (D := D) (ci := 1) (v := .int y0) (ty := .int) (C := RX1) (T := TX1) (N := 7) hx hb hts hin0 tyX1 tyX1_ok nmX1 hown hK hP hD hS 0 rfl rfl 3 (by decide) (hw w_f_X1_23) (fun _ h9 => h9) rfl (by decide +kernel) rfl rfl (Nat.le_of_ble_eq_true rfl) dX1_perform_145 (fun H locs hP hD hS => ?_)
    have hP : va_P D vwCl (clA o aw ar ak kI (u.1, u.2.1, y0, u.2.2.2.1, u.2.2.2.2.1, u.2.2.2.2.2.1, u.2.2.2.2.2.2)) H := hP
    have hD : va_D A (clA o aw ar ak kI (u.1, u.2.1, y0, u.2.2.2.1, u.2.2.2.2.1, u.2.2.2.2.2.1, u.2.2.2.2.2.2)) := hD
    exact K148 _ _ _ (u.1, u.2.1, y0, u.2.2.2.1, u.2.2.2.2.1, u.2.2.2.2.2.1, u.2.2.2.2.2.2) hP hD hS (lv_sub hl [] rfl) ht
  have K135 : ∀ (H : Heap) (locs : List Loc) (ls : Array Slot) (u : sA) (x1 : Int32) , va_P D vwCl (clA o aw ar ak kI u) H → va_D A (clA o aw ar ak kI u) → va_S A s.heap H locs → lv_has ls 2 [(0, .ref o), (1, .int x1)] → fnA_perform_135 u x1 = some tg → W p l e R s m ([.ref o, .int a1] : List Value).toArray below meth c H locs 0 0 Q (F0 m 135 ls []) := by
    intro H locs ls u x1 hP hD hS hl ht
    unfold fnA_perform_135 at ht
    refine lv_aload_n hx hb dX1_perform_135 rfl (lv_at hl 0 rfl) ?_
    refine lv_iload_n hx hb dX1_perform_136 rfl (lv_at hl 1 rfl) ?_
    refine lv_if_ne (tgt := 144) hx hb dX1_perform_137 (by decide) (fun g32 => ?_) (fun g32 => ?_)
    · have ht := (if_neg g32).symm.trans ht
      refine lv_iconst (v := (2 : Int32)) hx hb dX1_perform_144 (by decide) ?_
      exact K145 _ _ _ u (2 : Int32) hP hD hS (lv_sub hl [] rfl) ht
    · have ht := (if_pos g32).symm.trans ht
      refine lv_iconst (v := (1 : Int32)) hx hb dX1_perform_140 (by decide) ?_
      refine lv_goto (tgt := 145) hx hb dX1_perform_141 (by decide) ?_
      exact K145 _ _ _ u (1 : Int32) hP hD hS (lv_sub hl [] rfl) ht
  unfold fnA_perform at ht
  obtain ⟨H, hHe⟩ : ∃ H : Heap, H = s.heap := ⟨_, rfl⟩
  have hP : va_P D vwCl (clA o aw ar ak kI u) H := by rw [hHe]; exact hP
  have hS : va_S A s.heap H [] := by rw [hHe]; exact va_S.rf
  rw [← hHe]
  refine lv_iload_n hx hb dX1_perform_0 rfl (lv_at hl 1 rfl) ?_
  obtain ⟨r1, h2, ht⟩ := ob_some ht
  refine kS_i (va_runS (As := [.int a1]) (rest := []) ⟨hx, hb, hml, hown, hts⟩ (ctA_isOfTwoOperands l H.size a1 r1 h2) (cwS 1 hts (gS w_m_X1_69 w_sm_yX1_isOfTwoOperands w_init_MicroMill w_co_yX1_isOfTwoOperands) rfl rfl rfl (by decide +kernel) ⟨Nat.le_trans (Nat.le_of_ble_eq_true rfl) hRf, Nat.le_trans (Nat.le_of_ble_eq_true rfl) hRl⟩) (preSt _) rfl rfl hl.1 rfl (lv_room (Nat.le_of_ble_eq_true rfl)) dX1_perform_1 ⟨Nat.zero_le _, Nat.zero_le _⟩) hP hS hA (fun H locs hP hS => ?_)
  refine lv_if_eq (tgt := 15) hx hb dX1_perform_4 (by decide) (fun g3 => ?_) (fun g3 => ?_)
  · have ht := (if_pos g3).symm.trans ht
    refine lv_iload_n hx hb dX1_perform_15 rfl (lv_at hl 1 rfl) ?_
    obtain ⟨r4, h5, ht⟩ := ob_some ht
    refine kS_i (va_runS (As := [.int a1]) (rest := []) ⟨hx, hb, hml, hown, hts⟩ (ctA_isOfOneOperand l H.size a1 r4 h5) (cwS 1 hts (gS w_m_X1_75 w_sm_yX1_isOfOneOperand w_init_MicroMill w_co_yX1_isOfOneOperand) rfl rfl rfl (by decide +kernel) ⟨Nat.le_trans (Nat.le_of_ble_eq_true rfl) hRf, Nat.le_trans (Nat.le_of_ble_eq_true rfl) hRl⟩) (preSt _) rfl rfl hl.1 rfl (lv_room (Nat.le_of_ble_eq_true rfl)) dX1_perform_16 ⟨Nat.zero_le _, Nat.zero_le _⟩) hP hS hA (fun H locs hP hS => ?_)
    refine lv_if_eq (tgt := 30) hx hb dX1_perform_19 (by decide) (fun g6 => ?_) (fun g6 => ?_)
    · have ht := (if_pos g6).symm.trans ht
      refine lv_iload_n hx hb dX1_perform_30 rfl (lv_at hl 1 rfl) ?_
      obtain ⟨r7, h8, ht⟩ := ob_some ht
      refine kS_i (va_runS (As := [.int a1]) (rest := []) ⟨hx, hb, hml, hown, hts⟩ (ctA_isBranch l H.size a1 r7 h8) (cwS 1 hts (gS w_m_X1_81 w_sm_yX1_isBranch w_init_MicroMill w_co_yX1_isBranch) rfl rfl rfl (by decide +kernel) ⟨Nat.le_trans (Nat.le_of_ble_eq_true rfl) hRf, Nat.le_trans (Nat.le_of_ble_eq_true rfl) hRl⟩) (preSt _) rfl rfl hl.1 rfl (lv_room (Nat.le_of_ble_eq_true rfl)) dX1_perform_31 ⟨Nat.zero_le _, Nat.zero_le _⟩) hP hS hA (fun H locs hP hS => ?_)
      refine lv_if_eq (tgt := 45) hx hb dX1_perform_34 (by decide) (fun g9 => ?_) (fun g9 => ?_)
      · have ht := (if_pos g9).symm.trans ht
        refine lv_iload_n hx hb dX1_perform_45 rfl (lv_at hl 1 rfl) ?_
        refine lv_bipush (v := (9 : Int32)) hx hb dX1_perform_46 (by decide) ?_
        refine lv_ishr hx hb dX1_perform_48 ?_
        refine lv_bipush (v := (63 : Int32)) hx hb dX1_perform_49 (by decide) ?_
        refine lv_icmp_ne (tgt := 62) hx hb dX1_perform_51 (by decide) (fun g10 => ?_) (fun g10 => ?_)
        · have ht := (if_neg g10).symm.trans ht
          refine lv_iload_n hx hb dX1_perform_62 rfl (lv_at hl 1 rfl) ?_
          refine lv_bipush (v := (6 : Int32)) hx hb dX1_perform_63 (by decide) ?_
          refine lv_ishr hx hb dX1_perform_65 ?_
          refine lv_iconst (v := (1 : Int32)) hx hb dX1_perform_66 (by decide) ?_
          refine lv_icmp_ne (tgt := 78) hx hb dX1_perform_67 (by decide) (fun g11 => ?_) (fun g11 => ?_)
          · have ht := (if_neg g11).symm.trans ht
            refine lv_iload_n hx hb dX1_perform_78 rfl (lv_at hl 1 rfl) ?_
            refine lv_bipush (v := (9 : Int32)) hx hb dX1_perform_79 (by decide) ?_
            refine lv_ishr hx hb dX1_perform_81 ?_
            refine lv_iconst (v := (4 : Int32)) hx hb dX1_perform_82 (by decide) ?_
            refine lv_icmp_ne (tgt := 94) hx hb dX1_perform_83 (by decide) (fun g12 => ?_) (fun g12 => ?_)
            · have ht := (if_neg g12).symm.trans ht
              refine lv_iload_n hx hb dX1_perform_94 rfl (lv_at hl 1 rfl) ?_
              refine lv_iconst (v := (3 : Int32)) hx hb dX1_perform_95 (by decide) ?_
              refine lv_ishr hx hb dX1_perform_96 ?_
              refine lv_bipush (v := (16 : Int32)) hx hb dX1_perform_97 (by decide) ?_
              refine lv_icmp_ne (tgt := 113) hx hb dX1_perform_99 (by decide) (fun g13 => ?_) (fun g13 => ?_)
              · have ht := (if_neg g13).symm.trans ht
                refine lv_iload_n hx hb dX1_perform_113 rfl (lv_at hl 1 rfl) ?_
                refine lv_sipush (v := (160 : Int32)) hx hb dX1_perform_114 (by decide) ?_
                refine lv_icmp_lt (tgt := 135) hx hb dX1_perform_117 (by decide) (fun g14 => ?_) (fun g14 => ?_)
                · have ht := (if_pos g14).symm.trans ht
                  exact K135 _ _ _ u a1 hP hD hS (lv_sub hl [0, 1] rfl) ht
                · have ht := (if_neg g14).symm.trans ht
                  refine lv_iload_n hx hb dX1_perform_120 rfl (lv_at hl 1 rfl) ?_
                  refine lv_sipush (v := (191 : Int32)) hx hb dX1_perform_121 (by decide) ?_
                  refine lv_icmp_gt (tgt := 135) hx hb dX1_perform_124 (by decide) (fun g15 => ?_) (fun g15 => ?_)
                  · have ht := (if_pos g15).symm.trans ht
                    exact K135 _ _ _ u a1 hP hD hS (lv_sub hl [0, 1] rfl) ht
                  · have ht := (if_neg g15).symm.trans ht
                    refine lv_aload_n hx hb dX1_perform_127 rfl (lv_at hl 0 rfl) ?_
                    refine lv_iload_n hx hb dX1_perform_128 rfl (lv_at hl 1 rfl) ?_
                    obtain ⟨r16, h17, ht⟩ := ob_some ht
                    refine kG_v (cl := clA o aw ar ak kI) (u := u) (va_runV (As := [.int a1]) (rest := []) ⟨hx, hb, hml, hown, hts⟩ (ctA_doFlags l D kI tb o aw ar ak H.size u a1 r16 h17) (cwV 1 hts (gV w_m_X1_99 w_im_yX1_doFlags w_sel_yX1_doFlags w_init_MicroMill w_co_yX1_doFlags) rfl rfl rfl (by decide +kernel) ⟨Nat.le_trans (Nat.le_of_ble_eq_true rfl) hRf, Nat.le_trans (Nat.le_of_ble_eq_true rfl) hRl⟩) (preA hK hP hD hS hA hZ _) rfl rfl hl.1 rfl (lv_room (Nat.le_of_ble_eq_true rfl)) dX1_perform_129 ⟨Nat.zero_le _, Nat.zero_le _⟩) hD hS hA (fun H locs hP hD hS => ?_)
                    refine lv_goto (tgt := 148) hx hb dX1_perform_132 (by decide) ?_
                    exact K148 _ _ _ r16.2 hP hD hS (lv_sub hl [] rfl) ht
              · have ht := (if_pos g13).symm.trans ht
                refine lv_aload_n hx hb dX1_perform_102 rfl (lv_at hl 0 rfl) ?_
                refine lv_iload_n hx hb dX1_perform_103 rfl (lv_at hl 1 rfl) ?_
                refine lv_bipush (v := (7 : Int32)) hx hb dX1_perform_104 (by decide) ?_
                refine lv_iand hx hb dX1_perform_106 ?_
                obtain ⟨r18, h19, ht⟩ := ob_some ht
                refine kG_v (cl := clA o aw ar ak kI) (u := u) (va_runV (As := [.int (a1 &&& (7 : Int32))]) (rest := []) ⟨hx, hb, hml, hown, hts⟩ (ctA_doReturn l D kI tb o aw ar ak H.size u (a1 &&& (7 : Int32)) r18 h19) (cwV 1 hts (gV w_m_X1_96 w_im_yX1_doReturn w_sel_yX1_doReturn w_init_MicroMill w_co_yX1_doReturn) rfl rfl rfl (by decide +kernel) ⟨Nat.le_trans (Nat.le_of_ble_eq_true rfl) hRf, Nat.le_trans (Nat.le_of_ble_eq_true rfl) hRl⟩) (preA hK hP hD hS hA hZ _) rfl rfl hl.1 rfl (lv_room (Nat.le_of_ble_eq_true rfl)) dX1_perform_107 ⟨Nat.zero_le _, Nat.zero_le _⟩) hD hS hA (fun H locs hP hD hS => ?_)
                refine lv_goto (tgt := 148) hx hb dX1_perform_110 (by decide) ?_
                exact K148 _ _ _ r18.2 hP hD hS (lv_sub hl [] rfl) ht
            · have ht := (if_pos g12).symm.trans ht
              refine lv_aload_n hx hb dX1_perform_86 rfl (lv_at hl 0 rfl) ?_
              refine lv_iload_n hx hb dX1_perform_87 rfl (lv_at hl 1 rfl) ?_
              obtain ⟨r20, h21, ht⟩ := ob_some ht
              refine kG_v (cl := clA o aw ar ak kI) (u := u) (va_runV (As := [.int a1]) (rest := []) ⟨hx, hb, hml, hown, hts⟩ (ctA_doJumpToSubroutine l D kI tb o aw ar ak H.size u a1 r20 h21) (cwV 1 hts (gV w_m_X1_93 w_im_yX1_doJumpToSubroutine w_sel_yX1_doJumpToSubroutine w_init_MicroMill w_co_yX1_doJumpToSubroutine) rfl rfl rfl (by decide +kernel) ⟨Nat.le_trans (Nat.le_of_ble_eq_true rfl) hRf, Nat.le_trans (Nat.le_of_ble_eq_true rfl) hRl⟩) (preA hK hP hD hS hA hZ _) rfl rfl hl.1 rfl (lv_room (Nat.le_of_ble_eq_true rfl)) dX1_perform_88 ⟨Nat.zero_le _, Nat.zero_le _⟩) hD hS hA (fun H locs hP hD hS => ?_)
              refine lv_goto (tgt := 148) hx hb dX1_perform_91 (by decide) ?_
              exact K148 _ _ _ r20.2 hP hD hS (lv_sub hl [] rfl) ht
          · have ht := (if_pos g11).symm.trans ht
            refine lv_aload_n hx hb dX1_perform_70 rfl (lv_at hl 0 rfl) ?_
            refine lv_iload_n hx hb dX1_perform_71 rfl (lv_at hl 1 rfl) ?_
            obtain ⟨r22, h23, ht⟩ := ob_some ht
            refine kG_v (cl := clA o aw ar ak kI) (u := u) (va_runV (As := [.int a1]) (rest := []) ⟨hx, hb, hml, hown, hts⟩ (ctA_doJump l D kI tb o aw ar ak H.size u a1 r22 h23) (cwV 1 hts (gV w_m_X1_90 w_im_yX1_doJump w_sel_yX1_doJump w_init_MicroMill w_co_yX1_doJump) rfl rfl rfl (by decide +kernel) ⟨Nat.le_trans (Nat.le_of_ble_eq_true rfl) hRf, Nat.le_trans (Nat.le_of_ble_eq_true rfl) hRl⟩) (preA hK hP hD hS hA hZ _) rfl rfl hl.1 rfl (lv_room (Nat.le_of_ble_eq_true rfl)) dX1_perform_72 ⟨Nat.zero_le _, Nat.zero_le _⟩) hD hS hA (fun H locs hP hD hS => ?_)
            refine lv_goto (tgt := 148) hx hb dX1_perform_75 (by decide) ?_
            exact K148 _ _ _ r22.2 hP hD hS (lv_sub hl [] rfl) ht
        · have ht := (if_pos g10).symm.trans ht
          refine lv_aload_n hx hb dX1_perform_54 rfl (lv_at hl 0 rfl) ?_
          refine lv_iload_n hx hb dX1_perform_55 rfl (lv_at hl 1 rfl) ?_
          obtain ⟨r24, h25, ht⟩ := ob_some ht
          refine kG_v (cl := clA o aw ar ak kI) (u := u) (va_runV (As := [.int a1]) (rest := []) ⟨hx, hb, hml, hown, hts⟩ (ctA_doSubtractAndBranch l D kI tb o aw ar ak H.size u a1 r24 h25) (cwV 1 hts (gV w_m_X1_87 w_im_yX1_doSubtractAndBranch w_sel_yX1_doSubtractAndBranch w_init_MicroMill w_co_yX1_doSubtractAndBranch) rfl rfl rfl (by decide +kernel) ⟨Nat.le_trans (Nat.le_of_ble_eq_true rfl) hRf, Nat.le_trans (Nat.le_of_ble_eq_true rfl) hRl⟩) (preA hK hP hD hS hA hZ _) rfl rfl hl.1 rfl (lv_room (Nat.le_of_ble_eq_true rfl)) dX1_perform_56 ⟨Nat.zero_le _, Nat.zero_le _⟩) hD hS hA (fun H locs hP hD hS => ?_)
          refine lv_goto (tgt := 148) hx hb dX1_perform_59 (by decide) ?_
          exact K148 _ _ _ r24.2 hP hD hS (lv_sub hl [] rfl) ht
      · have ht := (if_neg g9).symm.trans ht
        refine lv_aload_n hx hb dX1_perform_37 rfl (lv_at hl 0 rfl) ?_
        refine lv_iload_n hx hb dX1_perform_38 rfl (lv_at hl 1 rfl) ?_
        obtain ⟨r26, h27, ht⟩ := ob_some ht
        refine kG_v (cl := clA o aw ar ak kI) (u := u) (va_runV (As := [.int a1]) (rest := []) ⟨hx, hb, hml, hown, hts⟩ (ctA_doBranch l D kI tb o aw ar ak H.size u a1 r26 h27) (cwV 1 hts (gV w_m_X1_84 w_im_yX1_doBranch w_sel_yX1_doBranch w_init_MicroMill w_co_yX1_doBranch) rfl rfl rfl (by decide +kernel) ⟨Nat.le_trans (Nat.le_of_ble_eq_true rfl) hRf, Nat.le_trans (Nat.le_of_ble_eq_true rfl) hRl⟩) (preA hK hP hD hS hA hZ _) rfl rfl hl.1 rfl (lv_room (Nat.le_of_ble_eq_true rfl)) dX1_perform_39 ⟨Nat.zero_le _, Nat.zero_le _⟩) hD hS hA (fun H locs hP hD hS => ?_)
        refine lv_goto (tgt := 148) hx hb dX1_perform_42 (by decide) ?_
        exact K148 _ _ _ r26.2 hP hD hS (lv_sub hl [] rfl) ht
    · have ht := (if_neg g6).symm.trans ht
      refine lv_aload_n hx hb dX1_perform_22 rfl (lv_at hl 0 rfl) ?_
      refine lv_iload_n hx hb dX1_perform_23 rfl (lv_at hl 1 rfl) ?_
      obtain ⟨r28, h29, ht⟩ := ob_some ht
      refine kG_v (cl := clA o aw ar ak kI) (u := u) (va_runV (As := [.int a1]) (rest := []) ⟨hx, hb, hml, hown, hts⟩ (ctA_doOneOperand l D kI tb o aw ar ak H.size u a1 r28 h29) (cwV 1 hts (gV w_m_X1_78 w_im_yX1_doOneOperand w_sel_yX1_doOneOperand w_init_MicroMill w_co_yX1_doOneOperand) rfl rfl rfl (by decide +kernel) ⟨Nat.le_trans (Nat.le_of_ble_eq_true rfl) hRf, Nat.le_trans (Nat.le_of_ble_eq_true rfl) hRl⟩) (preA hK hP hD hS hA hZ _) rfl rfl hl.1 rfl (lv_room (Nat.le_of_ble_eq_true rfl)) dX1_perform_24 ⟨Nat.zero_le _, Nat.zero_le _⟩) hD hS hA (fun H locs hP hD hS => ?_)
      refine lv_goto (tgt := 148) hx hb dX1_perform_27 (by decide) ?_
      exact K148 _ _ _ r28.2 hP hD hS (lv_sub hl [] rfl) ht
  · have ht := (if_neg g3).symm.trans ht
    refine lv_aload_n hx hb dX1_perform_7 rfl (lv_at hl 0 rfl) ?_
    refine lv_iload_n hx hb dX1_perform_8 rfl (lv_at hl 1 rfl) ?_
    obtain ⟨r30, h31, ht⟩ := ob_some ht
    refine kG_v (cl := clA o aw ar ak kI) (u := u) (va_runV (As := [.int a1]) (rest := []) ⟨hx, hb, hml, hown, hts⟩ (ctA_doTwoOperands l D kI tb o aw ar ak H.size u a1 r30 h31) (cwV 1 hts (gV w_m_X1_72 w_im_yX1_doTwoOperands w_sel_yX1_doTwoOperands w_init_MicroMill w_co_yX1_doTwoOperands) rfl rfl rfl (by decide +kernel) ⟨Nat.le_trans (Nat.le_of_ble_eq_true rfl) hRf, Nat.le_trans (Nat.le_of_ble_eq_true rfl) hRl⟩) (preA hK hP hD hS hA hZ _) rfl rfl hl.1 rfl (lv_room (Nat.le_of_ble_eq_true rfl)) dX1_perform_9 ⟨Nat.zero_le _, Nat.zero_le _⟩) hD hS hA (fun H locs hP hD hS => ?_)
    refine lv_goto (tgt := 148) hx hb dX1_perform_12 (by decide) ?_
    exact K148 _ _ _ r30.2 hP hD hS (lv_sub hl [] rfl) ht
def fnA_doInstruction_27 (u : sA) : Option (Int32 × sA) := if u.2.2.1 = 0 then (some (u.2.2.2.2.1, (u.1, u.2.1, u.2.2.1, (u.2.2.2.1 + u.2.2.2.2.1.toInt64), u.2.2.2.2.1, u.2.2.2.2.2.1, u.2.2.2.2.2.2))) else (some ((-1 : Int32), u))
def fnA_doInstruction (u : sA) : Option (Int32 × sA) := (fnA_stepUp (u.1, u.2.1, u.2.2.1, u.2.2.2.1, (2 : Int32), u.2.2.2.2.2.1, u.2.2.2.2.2.2) (7 : Int32) (2 : Int32)).bind (fun r1 => (fnA_readWord r1.2 r1.1).bind (fun r3 => if r3.1 = (-1 : Int32) then (fnA_doInstruction_27 r3.2) else ((fnA_perform r3.2 r3.1).bind (fun r6 => fnA_doInstruction_27 r6.2))))
set_option maxRecDepth 100000 in
set_option maxHeartbeats 4000000 in
theorem ctA_doInstruction (l : Launch) (D : va_G) (kI : ClassId) (tb : Nat) (o aw ar ak : Nat) (sz : Nat) (u : sA) (tg : Int32 × sA) (ht : fnA_doInstruction u  = some tg) : Met l yX1_doInstruction (Cond.code yX1_doInstruction cX1_doInstruction 2 (some .int) :: wAll) ({ frames := 5, cells := 0, slots := 0, locals := 120 } : Room) (va_Pc [.ref o] (prA D kI tb o aw ar ak sz u)) (va_Qi (fun (x : Int32) (v : sA) => x = tg.1 ∧ v = tg.2) (poG D kI (clA o aw ar ak kI) (va_A (clA o aw ar ak kI u) sz)) (va_A (clA o aw ar ak kI u) sz)) 0 0 (va_A (clA o aw ar ak kI u) sz) := by
  refine mOfW (cc := cX1_doInstruction) (maxL := 2) (ret := (some .int)) (by decide) rfl ?_
  intro p e s m args below meth c s₁ Q R hQ hR B hml hv
  obtain ⟨rfl, hsz, hP, hK, hD0, hZ⟩ := hv
  have hx := B.exec
  have hb := B.bytes
  have hr := B.returns
  have hts := atoms_spec (ws := Cond.code yX1_doInstruction cX1_doInstruction 2 (some .int) :: wAll) B.pre
  have hw : ∀ {w : Cond}, w ∈ wAll → w.before _ s = true := fun {w} h => hts w (List.mem_cons_of_mem _ h)
  have hown : s.vm.findClass RX1 = some m.cls := findClass_of_methodNamed B.named
  have hlocks := B.notSynchronized
  have hRf : 5 ≤ R.frames := by rw [hR]; exact Nat.le_refl _
  have hRl : 120 ≤ R.locals := by rw [hR]; exact Nat.le_refl _
  subst hsz
  have hD := hD0.self (sz := s.heap.size)
  generalize hAe : va_A (clA o aw ar ak kI u) s.heap.size = A at hD hZ hQ
  have hA : ∀ q : Nat, s.heap.size ≤ q → A q := fun q h => by rw [← hAe]; exact Or.inr h
  have hl := lv_entry ([.ref o]) (n := 2) (Nat.le_of_ble_eq_true rfl)
  rw [lg_entry_eq]
  generalize (lg_sl ([.ref o]) ++ List.replicate (2 - (lg_sl ([.ref o])).length) Slot.unset).toArray = ls at hl ⊢
  have hl : lv_has ls 2 [(0, .ref o)] := hl
  have hin0 : ∀ w ∈ u_ws RX1 TX1 7, w ∈ (Cond.code yX1_doInstruction cX1_doInstruction 2 (some .int) :: wAll) := fun w h => List.mem_cons_of_mem _ (w_flX1 w h)
  have K27 : ∀ (H : Heap) (locs : List Loc) (ls : Array Slot) (u : sA) , va_P D vwCl (clA o aw ar ak kI u) H → va_D A (clA o aw ar ak kI u) → va_S A s.heap H locs → lv_has ls 2 [(0, .ref o)] → fnA_doInstruction_27 u  = some tg → W p l e R s m ([.ref o] : List Value).toArray below meth c H locs 0 0 Q (F0 m 27 ls []) := by
    intro H locs ls u  hP hD hS hl ht
    unfold fnA_doInstruction_27 at ht
    refine lv_aload_n hx hb dX1_doInstruction_27 rfl (lv_at hl 0 rfl) ?_
    refine va_get (D := D) (ci := 1) (v := .int u.2.2.1) (C := RX1) (T := TX1) (N := 7) hx hb hts hin0 hown hK hP 0 rfl rfl 3 (by decide) (hw w_f_X1_23) (fun _ h9 => h9) rfl dX1_doInstruction_28 ?_
    refine lv_if_eq (tgt := 36) hx hb dX1_doInstruction_31 (by decide) (fun g8 => ?_) (fun g8 => ?_)
    · have ht := (if_pos g8).symm.trans ht
      refine lv_aload_n hx hb dX1_doInstruction_36 rfl (lv_at hl 0 rfl) ?_
      refine lv_dup hx hb dX1_doInstruction_37 rfl ?_
      refine va_get (D := D) (ci := 1) (v := .long u.2.2.2.1) (C := RX1) (T := TX1) (N := 7) hx hb hts hin0 hown hK hP 0 rfl rfl 4 (by decide) (hw w_f_X1_27) (fun _ h9 => h9) rfl dX1_doInstruction_38 ?_
      refine lv_aload_n hx hb dX1_doInstruction_41 rfl (lv_at hl 0 rfl) ?_
      refine va_get (D := D) (ci := 1) (v := .int u.2.2.2.2.1) (C := RX1) (T := TX1) (N := 7) hx hb hts hin0 hown hK hP 0 rfl rfl 5 (by decide) (hw w_f_X1_31) (fun _ h9 => h9) rfl dX1_doInstruction_42 ?_
      refine lv_i2l hx hb dX1_doInstruction_45 rfl ?_
      refine lv_ladd hx hb dX1_doInstruction_46 ?_
      refine va_put (D := D) (ci := 1) (v := .long (u.2.2.2.1 + u.2.2.2.2.1.toInt64)) (ty := .long) (C := RX1) (T := TX1) (N := 7) hx hb hts hin0 tyX1 tyX1_ok nmX1 hown hK hP hD hS 0 rfl rfl 4 (by decide) (hw w_f_X1_27) (fun _ h9 => h9) rfl (by decide +kernel) rfl rfl (Nat.le_of_ble_eq_true rfl) dX1_doInstruction_47 (fun H locs hP hD hS => ?_)
      have hP : va_P D vwCl (clA o aw ar ak kI (u.1, u.2.1, u.2.2.1, (u.2.2.2.1 + u.2.2.2.2.1.toInt64), u.2.2.2.2.1, u.2.2.2.2.2.1, u.2.2.2.2.2.2)) H := hP
      have hD : va_D A (clA o aw ar ak kI (u.1, u.2.1, u.2.2.1, (u.2.2.2.1 + u.2.2.2.2.1.toInt64), u.2.2.2.2.1, u.2.2.2.2.2.1, u.2.2.2.2.2.2)) := hD
      refine lv_aload_n hx hb dX1_doInstruction_50 rfl (lv_at hl 0 rfl) ?_
      refine va_get (D := D) (ci := 1) (v := .int u.2.2.2.2.1) (C := RX1) (T := TX1) (N := 7) hx hb hts hin0 hown hK hP 0 rfl rfl 5 (by decide) (hw w_f_X1_31) (fun _ h9 => h9) rfl dX1_doInstruction_51 ?_
      have e9 := Option.some.inj ht
      subst hQ
      exact W.iret (v := u.2.2.2.2.1) hx hb hr (fun t ht9 hW => ⟨⟨u.2.2.2.2.1, (u.1, u.2.1, u.2.2.1, (u.2.2.2.1 + u.2.2.2.2.1.toInt64), u.2.2.2.2.1, u.2.2.2.2.2.1, u.2.2.2.2.2.2), rfl, ⟨pr1 e9, pr2 e9⟩, ⟨by rw [ht9]; exact hP, va_K.moved hW.alike hK, hD⟩⟩, hS.F ht9⟩) hS.2.2 dX1_doInstruction_54
    · have ht := (if_neg g8).symm.trans ht
      refine lv_iconst (v := (-1 : Int32)) hx hb dX1_doInstruction_34 (by decide) ?_
      have e9 := Option.some.inj ht
      subst hQ
      exact W.iret (v := (-1 : Int32)) hx hb hr (fun t ht9 hW => ⟨⟨(-1 : Int32), u, rfl, ⟨pr1 e9, pr2 e9⟩, ⟨by rw [ht9]; exact hP, va_K.moved hW.alike hK, hD⟩⟩, hS.F ht9⟩) hS.2.2 dX1_doInstruction_35
  unfold fnA_doInstruction at ht
  obtain ⟨H, hHe⟩ : ∃ H : Heap, H = s.heap := ⟨_, rfl⟩
  have hP : va_P D vwCl (clA o aw ar ak kI u) H := by rw [hHe]; exact hP
  have hS : va_S A s.heap H [] := by rw [hHe]; exact va_S.rf
  rw [← hHe]
  refine lv_aload_n hx hb dX1_doInstruction_0 rfl (lv_at hl 0 rfl) ?_
  refine lv_iconst (v := (2 : Int32)) hx hb dX1_doInstruction_1 (by decide) ?_
  refine va_put (D := D) (ci := 1) (v := .int (2 : Int32)) (ty := .int) (C := RX1) (T := TX1) (N := 7) hx hb hts hin0 tyX1 tyX1_ok nmX1 hown hK hP hD hS 0 rfl rfl 5 (by decide) (hw w_f_X1_31) (fun _ h9 => h9) rfl (by decide +kernel) rfl rfl (Nat.le_of_ble_eq_true rfl) dX1_doInstruction_2 (fun H locs hP hD hS => ?_)
  have hP : va_P D vwCl (clA o aw ar ak kI (u.1, u.2.1, u.2.2.1, u.2.2.2.1, (2 : Int32), u.2.2.2.2.2.1, u.2.2.2.2.2.2)) H := hP
  have hD : va_D A (clA o aw ar ak kI (u.1, u.2.1, u.2.2.1, u.2.2.2.1, (2 : Int32), u.2.2.2.2.2.1, u.2.2.2.2.2.2)) := hD
  refine lv_aload_n hx hb dX1_doInstruction_5 rfl (lv_at hl 0 rfl) ?_
  refine lv_aload_n hx hb dX1_doInstruction_6 rfl (lv_at hl 0 rfl) ?_
  refine lv_bipush (v := (7 : Int32)) hx hb dX1_doInstruction_7 (by decide) ?_
  refine lv_iconst (v := (2 : Int32)) hx hb dX1_doInstruction_9 (by decide) ?_
  obtain ⟨r1, h2, ht⟩ := ob_some ht
  refine kG_i (cl := clA o aw ar ak kI) (u := (u.1, u.2.1, u.2.2.1, u.2.2.2.1, (2 : Int32), u.2.2.2.2.2.1, u.2.2.2.2.2.2)) (va_runV (As := [.int (7 : Int32), .int (2 : Int32)]) (rest := [.ref o]) ⟨hx, hb, hml, hown, hts⟩ (ctA_stepUp l D kI tb o aw ar ak H.size (u.1, u.2.1, u.2.2.1, u.2.2.2.1, (2 : Int32), u.2.2.2.2.2.1, u.2.2.2.2.2.2) (7 : Int32) (2 : Int32) r1 h2) (cwV 2 hts (gV w_m_X1_58 w_im_yX1_stepUp w_sel_yX1_stepUp w_init_MicroMill w_co_yX1_stepUp) rfl rfl rfl (by decide +kernel) ⟨Nat.le_trans (Nat.le_of_ble_eq_true rfl) hRf, Nat.le_trans (Nat.le_of_ble_eq_true rfl) hRl⟩) (preA hK hP hD hS hA hZ _) rfl rfl hl.1 rfl (lv_room (Nat.le_of_ble_eq_true rfl)) dX1_doInstruction_10 ⟨Nat.zero_le _, Nat.zero_le _⟩) hD hS hA (fun H locs hP hD hS => ?_)
  obtain ⟨r3, h4, ht⟩ := ob_some ht
  refine kG_i (cl := clA o aw ar ak kI) (u := r1.2) (va_runV (As := [.int r1.1]) (rest := []) ⟨hx, hb, hml, hown, hts⟩ (ctA_readWord l D kI tb o aw ar ak H.size r1.2 r1.1 r3 h4) (cwV 1 hts (gV w_m_X1_61 w_im_yX1_readWord w_sel_yX1_readWord w_init_MicroMill w_co_yX1_readWord) rfl rfl rfl (by decide +kernel) ⟨Nat.le_trans (Nat.le_of_ble_eq_true rfl) hRf, Nat.le_trans (Nat.le_of_ble_eq_true rfl) hRl⟩) (preA hK hP hD hS hA hZ _) rfl rfl hl.1 rfl (lv_room (Nat.le_of_ble_eq_true rfl)) dX1_doInstruction_13 ⟨Nat.zero_le _, Nat.zero_le _⟩) hD hS hA (fun H locs hP hD hS => ?_)
  refine lv_istore_n (lv' := [(1, .int r3.1), (0, .ref o)]) hx hb dX1_doInstruction_16 rfl hl (by decide) rfl (fun ls hl => ?_)
  refine lv_iload_n hx hb dX1_doInstruction_17 rfl (lv_at hl 0 rfl) ?_
  refine lv_iconst (v := (-1 : Int32)) hx hb dX1_doInstruction_18 (by decide) ?_
  refine lv_icmp_eq (tgt := 27) hx hb dX1_doInstruction_19 (by decide) (fun g5 => ?_) (fun g5 => ?_)
  · have ht := (if_pos g5).symm.trans ht
    exact K27 _ _ _ r3.2 hP hD hS (lv_sub hl [1] rfl) ht
  · have ht := (if_neg g5).symm.trans ht
    refine lv_aload_n hx hb dX1_doInstruction_22 rfl (lv_at hl 1 rfl) ?_
    refine lv_iload_n hx hb dX1_doInstruction_23 rfl (lv_at hl 0 rfl) ?_
    obtain ⟨r6, h7, ht⟩ := ob_some ht
    refine kG_v (cl := clA o aw ar ak kI) (u := r3.2) (va_runV (As := [.int r3.1]) (rest := []) ⟨hx, hb, hml, hown, hts⟩ (ctA_perform l D kI tb o aw ar ak H.size r3.2 r3.1 r6 h7) (cwV 1 hts (gV w_m_X1_65 w_im_yX1_perform w_sel_yX1_perform w_init_MicroMill w_co_yX1_perform) rfl rfl rfl (by decide +kernel) ⟨Nat.le_trans (Nat.le_of_ble_eq_true rfl) hRf, Nat.le_trans (Nat.le_of_ble_eq_true rfl) hRl⟩) (preA hK hP hD hS hA hZ _) rfl rfl hl.1 rfl (lv_room (Nat.le_of_ble_eq_true rfl)) dX1_doInstruction_24 ⟨Nat.zero_le _, Nat.zero_le _⟩) hD hS hA (fun H locs hP hD hS => ?_)
    exact K27 _ _ _ r6.2 hP hD hS (lv_sub hl [1] rfl) ht
def fnA_flags (u : sA) : Option (Int32 × sA) := (fnW_packed u.2.2.2.2.2.2).bind (fun r1 => some (r1.1, (u.1, u.2.1, u.2.2.1, u.2.2.2.1, u.2.2.2.2.1, u.2.2.2.2.2.1, r1.2)))
set_option maxRecDepth 100000 in
set_option maxHeartbeats 4000000 in
theorem ctA_flags (l : Launch) (D : va_G) (kI : ClassId) (tb : Nat) (o aw ar ak : Nat) (sz : Nat) (u : sA) (tg : Int32 × sA) (ht : fnA_flags u  = some tg) : Met l yX1_flags (Cond.code yX1_flags cX1_flags 1 (some .int) :: wAll) ({ frames := 1, cells := 0, slots := 0, locals := 20 } : Room) (va_Pc [.ref o] (prA D kI tb o aw ar ak sz u)) (va_Qi (fun (x : Int32) (v : sA) => x = tg.1 ∧ v = tg.2) (poG D kI (clA o aw ar ak kI) (va_A (clA o aw ar ak kI u) sz)) (va_A (clA o aw ar ak kI u) sz)) 0 0 (va_A (clA o aw ar ak kI u) sz) := by
  refine mOfW (cc := cX1_flags) (maxL := 1) (ret := (some .int)) (by decide) rfl ?_
  intro p e s m args below meth c s₁ Q R hQ hR B hml hv
  obtain ⟨rfl, hsz, hP, hK, hD0, hZ⟩ := hv
  have hx := B.exec
  have hb := B.bytes
  have hr := B.returns
  have hts := atoms_spec (ws := Cond.code yX1_flags cX1_flags 1 (some .int) :: wAll) B.pre
  have hw : ∀ {w : Cond}, w ∈ wAll → w.before _ s = true := fun {w} h => hts w (List.mem_cons_of_mem _ h)
  have hown : s.vm.findClass RX1 = some m.cls := findClass_of_methodNamed B.named
  have hlocks := B.notSynchronized
  have hRf : 1 ≤ R.frames := by rw [hR]; exact Nat.le_refl _
  have hRl : 20 ≤ R.locals := by rw [hR]; exact Nat.le_refl _
  subst hsz
  have hD := hD0.self (sz := s.heap.size)
  generalize hAe : va_A (clA o aw ar ak kI u) s.heap.size = A at hD hZ hQ
  have hA : ∀ q : Nat, s.heap.size ≤ q → A q := fun q h => by rw [← hAe]; exact Or.inr h
  have hl := lv_entry ([.ref o]) (n := 1) (Nat.le_of_ble_eq_true rfl)
  rw [lg_entry_eq]
  generalize (lg_sl ([.ref o]) ++ List.replicate (1 - (lg_sl ([.ref o])).length) Slot.unset).toArray = ls at hl ⊢
  have hl : lv_has ls 1 [(0, .ref o)] := hl
  have hin0 : ∀ w ∈ u_ws RX1 TX1 7, w ∈ (Cond.code yX1_flags cX1_flags 1 (some .int) :: wAll) := fun w h => List.mem_cons_of_mem _ (w_flX1 w h)
  have hn45 : va_Nw (.methodLinkNest RX1 45 yX0_packed "MicroMill") s := hZ.2.2 _ (by decide +kernel)
  unfold fnA_flags at ht
  obtain ⟨H, hHe⟩ : ∃ H : Heap, H = s.heap := ⟨_, rfl⟩
  have hP : va_P D vwCl (clA o aw ar ak kI u) H := by rw [hHe]; exact hP
  have hS : va_S A s.heap H [] := by rw [hHe]; exact va_S.rf
  rw [← hHe]
  refine lv_aload_n hx hb dX1_flags_0 rfl (lv_at hl 0 rfl) ?_
  refine va_get (D := D) (ci := 1) (v := .ref ak) (C := RX1) (T := TX1) (N := 7) hx hb hts hin0 hown hK hP 0 rfl rfl 2 (by decide) (hw w_f_X1_19) (fun _ h9 => h9) rfl dX1_flags_1 ?_
  obtain ⟨r1, h2, ht⟩ := ob_some ht
  refine kW_i (u := u) (va_runVN (As := []) (rest := []) ⟨hx, hb, hml, hown, hts⟩ (ctW_packed l D kI ak H.size u.2.2.2.2.2.2  r1 h2) ⟨va_cnB 0 hts (gC w_co_yX0_packed) rfl rfl rfl hn45 (hw w_init_MicroMill_Work) (by decide +kernel) ⟨Nat.le_trans (Nat.le_of_ble_eq_true rfl) hRf, Nat.le_trans (Nat.le_of_ble_eq_true rfl) hRl⟩, hw w_im_yX0_packed, hw w_sel_yX0_packed⟩ (preG (cl := clW ak) (u := u.2.2.2.2.2.2) (N := 6) (ci := 0) hK (hP.sub (ws' := clW ak u.2.2.2.2.2.2) [3] rfl) ((hD.sub (ws' := clW ak u.2.2.2.2.2.2) [3] (by decide) rfl).weaken (fun _ _ _ _ => trivial)) rfl rfl _) rfl rfl hl.1 rfl (lv_room (Nat.le_of_ble_eq_true rfl)) dX1_flags_4 ⟨Nat.zero_le _, Nat.zero_le _⟩) hP hD hS hA (fun H locs hP hD hS => ?_)
  have hP : va_P D vwCl (clA o aw ar ak kI (u.1, u.2.1, u.2.2.1, u.2.2.2.1, u.2.2.2.2.1, u.2.2.2.2.2.1, r1.2)) H := hP
  have hD : va_D A (clA o aw ar ak kI (u.1, u.2.1, u.2.2.1, u.2.2.2.1, u.2.2.2.2.1, u.2.2.2.2.2.1, r1.2)) := hD
  have e9 := Option.some.inj ht
  subst hQ
  exact W.iret (v := r1.1) hx hb hr (fun t ht9 hW => ⟨⟨r1.1, (u.1, u.2.1, u.2.2.1, u.2.2.2.1, u.2.2.2.2.1, u.2.2.2.2.2.1, r1.2), rfl, ⟨pr1 e9, pr2 e9⟩, ⟨by rw [ht9]; exact hP, va_K.moved hW.alike hK, hD⟩⟩, hS.F ht9⟩) hS.2.2 dX1_flags_7
def fnA_go_12 (u : sA) (y0 : Int32) : Option (Int32 × sA) := if bok y0 then (some (y0, (u.1, u.2.1, (0 : Int32), u.2.2.2.1, u.2.2.2.2.1, u.2.2.2.2.2.1, u.2.2.2.2.2.2))) else none
def fnA_go (u : sA) : Option (Int32 × sA) := if u.2.2.1 = 0 then (fnA_go_12 u (0 : Int32)) else (fnA_go_12 u (1 : Int32))
set_option maxRecDepth 100000 in
set_option maxHeartbeats 4000000 in
theorem ctA_go (l : Launch) (D : va_G) (kI : ClassId) (tb : Nat) (o aw ar ak : Nat) (sz : Nat) (u : sA) (tg : Int32 × sA) (ht : fnA_go u  = some tg) : Met l yX1_go (Cond.code yX1_go cX1_go 2 (some .boolean) :: wAll) ({ frames := 0, cells := 0, slots := 0, locals := 0 } : Room) (va_Pc [.ref o] (prA D kI tb o aw ar ak sz u)) (va_Qi (fun (x : Int32) (v : sA) => x = tg.1 ∧ v = tg.2) (poG D kI (clA o aw ar ak kI) (va_A (clA o aw ar ak kI u) sz)) (va_A (clA o aw ar ak kI u) sz)) 0 0 (va_A (clA o aw ar ak kI u) sz) := by
  refine mOfW (cc := cX1_go) (maxL := 2) (ret := (some .boolean)) (by decide) rfl ?_
  intro p e s m args below meth c s₁ Q R hQ hR B hml hv
  obtain ⟨rfl, hsz, hP, hK, hD0, hZ⟩ := hv
  have hx := B.exec
  have hb := B.bytes
  have hr := B.returns
  have hts := atoms_spec (ws := Cond.code yX1_go cX1_go 2 (some .boolean) :: wAll) B.pre
  have hw : ∀ {w : Cond}, w ∈ wAll → w.before _ s = true := fun {w} h => hts w (List.mem_cons_of_mem _ h)
  have hown : s.vm.findClass RX1 = some m.cls := findClass_of_methodNamed B.named
  have hlocks := B.notSynchronized
  have hRf : 0 ≤ R.frames := by rw [hR]; exact Nat.le_refl _
  have hRl : 0 ≤ R.locals := by rw [hR]; exact Nat.le_refl _
  subst hsz
  have hD := hD0.self (sz := s.heap.size)
  generalize hAe : va_A (clA o aw ar ak kI u) s.heap.size = A at hD hZ hQ
  have hA : ∀ q : Nat, s.heap.size ≤ q → A q := fun q h => by rw [← hAe]; exact Or.inr h
  have hl := lv_entry ([.ref o]) (n := 2) (Nat.le_of_ble_eq_true rfl)
  rw [lg_entry_eq]
  generalize (lg_sl ([.ref o]) ++ List.replicate (2 - (lg_sl ([.ref o])).length) Slot.unset).toArray = ls at hl ⊢
  have hl : lv_has ls 2 [(0, .ref o)] := hl
  have hin0 : ∀ w ∈ u_ws RX1 TX1 7, w ∈ (Cond.code yX1_go cX1_go 2 (some .boolean) :: wAll) := fun w h => List.mem_cons_of_mem _ (w_flX1 w h)
  have K12 : ∀ (H : Heap) (locs : List Loc) (ls : Array Slot) (u : sA) (y0 : Int32) , va_P D vwCl (clA o aw ar ak kI u) H → va_D A (clA o aw ar ak kI u) → va_S A s.heap H locs → lv_has ls 2 [(0, .ref o)] → fnA_go_12 u y0 = some tg → W p l e R s m ([.ref o] : List Value).toArray below meth c H locs 0 0 Q (F0 m 12 ls [.int y0]) := by
    intro H locs ls u y0 hP hD hS hl ht
    unfold fnA_go_12 at ht
    refine lv_istore_n (lv' := [(1, .int y0), (0, .ref o)]) hx hb dX1_go_12 rfl hl (by decide) rfl (fun ls hl => ?_)
    refine lv_aload_n hx hb dX1_go_13 rfl (lv_at hl 1 rfl) ?_
    refine lv_iconst (v := (0 : Int32)) hx hb dX1_go_14 (by decide) ?_
    refine va_put (D := D) (ci := 1) (v := .int (0 : Int32)) (ty := .int) (C := RX1) (T := TX1) (N := 7) hx hb hts hin0 tyX1 tyX1_ok nmX1 hown hK hP hD hS 0 rfl rfl 3 (by decide) (hw w_f_X1_23) (fun _ h9 => h9) rfl (by decide +kernel) rfl rfl (Nat.le_of_ble_eq_true rfl) dX1_go_15 (fun H locs hP hD hS => ?_)
    have hP : va_P D vwCl (clA o aw ar ak kI (u.1, u.2.1, (0 : Int32), u.2.2.2.1, u.2.2.2.2.1, u.2.2.2.2.2.1, u.2.2.2.2.2.2)) H := hP
    have hD : va_D A (clA o aw ar ak kI (u.1, u.2.1, (0 : Int32), u.2.2.2.1, u.2.2.2.2.1, u.2.2.2.2.2.1, u.2.2.2.2.2.2)) := hD
    refine lv_iload_n hx hb dX1_go_18 rfl (lv_at hl 0 rfl) ?_
    obtain ⟨b2, ht⟩ := oi_some ht
    have e9 := Option.some.inj ht
    subst hQ
    exact W.zret (ty := .boolean) (v := y0) hx hb hr (bok_n b2) (fun t ht9 hW => ⟨⟨y0, (u.1, u.2.1, (0 : Int32), u.2.2.2.1, u.2.2.2.2.1, u.2.2.2.2.2.1, u.2.2.2.2.2.2), rfl, ⟨pr1 e9, pr2 e9⟩, ⟨by rw [ht9]; exact hP, va_K.moved hW.alike hK, hD⟩⟩, hS.F ht9⟩) hS.2.2 dX1_go_19
  unfold fnA_go at ht
  obtain ⟨H, hHe⟩ : ∃ H : Heap, H = s.heap := ⟨_, rfl⟩
  have hP : va_P D vwCl (clA o aw ar ak kI u) H := by rw [hHe]; exact hP
  have hS : va_S A s.heap H [] := by rw [hHe]; exact va_S.rf
  rw [← hHe]
  refine lv_aload_n hx hb dX1_go_0 rfl (lv_at hl 0 rfl) ?_
  refine va_get (D := D) (ci := 1) (v := .int u.2.2.1) (C := RX1) (T := TX1) (N := 7) hx hb hts hin0 hown hK hP 0 rfl rfl 3 (by decide) (hw w_f_X1_23) (fun _ h9 => h9) rfl dX1_go_1 ?_
  refine lv_if_eq (tgt := 11) hx hb dX1_go_4 (by decide) (fun g1 => ?_) (fun g1 => ?_)
  · have ht := (if_pos g1).symm.trans ht
    refine lv_iconst (v := (0 : Int32)) hx hb dX1_go_11 (by decide) ?_
    exact K12 _ _ _ u (0 : Int32) hP hD hS (lv_sub hl [0] rfl) ht
  · have ht := (if_neg g1).symm.trans ht
    refine lv_iconst (v := (1 : Int32)) hx hb dX1_go_7 (by decide) ?_
    refine lv_goto (tgt := 12) hx hb dX1_go_8 (by decide) ?_
    exact K12 _ _ _ u (1 : Int32) hP hD hS (lv_sub hl [0] rfl) ht
def fnA_isRegister_15 (y0 : Int32) : Option (Int32 × Unit) := if bok y0 then (some (y0, ())) else none
def fnA_isRegister_14 : Option (Int32 × Unit) := fnA_isRegister_15 (0 : Int32)
def fnA_isRegister (a1 : Int32) : Option (Int32 × Unit) := if a1 < 0 then fnA_isRegister_14 else (if (8 : Int32) ≤ a1 then fnA_isRegister_14 else (fnA_isRegister_15 (1 : Int32)))
set_option maxRecDepth 100000 in
set_option maxHeartbeats 4000000 in
theorem ctA_isRegister (l : Launch) (sz : Nat) (a1 : Int32) (tg : Int32 × Unit) (ht : fnA_isRegister a1 = some tg) : Met l yX1_isRegister (Cond.code yX1_isRegister cX1_isRegister 1 (some .boolean) :: wAll) ({ frames := 0, cells := 0, slots := 0, locals := 0 } : Room) (va_Pc [.int a1] (prS sz)) (va_Qi (fun (x : Int32) (v : Unit) => x = tg.1 ∧ v = tg.2) poS (va_A [] sz)) 0 0 (va_A [] sz) := by
  refine mOfW (cc := cX1_isRegister) (maxL := 1) (ret := (some .boolean)) (by decide) rfl ?_
  intro p e s m args below meth c s₁ Q R hQ hR B hml hv
  obtain ⟨rfl, hsz⟩ := hv
  have hx := B.exec
  have hb := B.bytes
  have hr := B.returns
  have hts := atoms_spec (ws := Cond.code yX1_isRegister cX1_isRegister 1 (some .boolean) :: wAll) B.pre
  have hw : ∀ {w : Cond}, w ∈ wAll → w.before _ s = true := fun {w} h => hts w (List.mem_cons_of_mem _ h)
  have hown : s.vm.findClass RX1 = some m.cls := findClass_of_methodNamed B.named
  have hlocks := B.notSynchronized
  have hRf : 0 ≤ R.frames := by rw [hR]; exact Nat.le_refl _
  have hRl : 0 ≤ R.locals := by rw [hR]; exact Nat.le_refl _
  unfold prS at hsz
  subst hsz
  generalize hAe : va_A [] s.heap.size = A at hQ
  have hA : ∀ q : Nat, s.heap.size ≤ q → A q := fun q h => by rw [← hAe]; exact Or.inr h
  have hl := lv_entry ([.int a1]) (n := 1) (Nat.le_of_ble_eq_true rfl)
  rw [lg_entry_eq]
  generalize (lg_sl ([.int a1]) ++ List.replicate (1 - (lg_sl ([.int a1])).length) Slot.unset).toArray = ls at hl ⊢
  have hl : lv_has ls 1 [(0, .int a1)] := hl
  have K15 : ∀ (H : Heap) (locs : List Loc) (ls : Array Slot) (y0 : Int32) , va_S A s.heap H locs → lv_has ls 1 [] → fnA_isRegister_15 y0 = some tg → W p l e R s m ([.int a1] : List Value).toArray below meth c H locs 0 0 Q (F0 m 15 ls [.int y0]) := by
    intro H locs ls y0 hS hl ht
    unfold fnA_isRegister_15 at ht
    obtain ⟨b3, ht⟩ := oi_some ht
    have e9 := Option.some.inj ht
    subst hQ
    exact W.zret (ty := .boolean) (v := y0) hx hb hr (bok_n b3) (fun t ht9 hW => ⟨⟨y0, (), rfl, ⟨pr1 e9, pr2 e9⟩, trivial⟩, hS.F ht9⟩) hS.2.2 dX1_isRegister_15
  have K14 : ∀ (H : Heap) (locs : List Loc) (ls : Array Slot) , va_S A s.heap H locs → lv_has ls 1 [] → fnA_isRegister_14  = some tg → W p l e R s m ([.int a1] : List Value).toArray below meth c H locs 0 0 Q (F0 m 14 ls []) := by
    intro H locs ls  hS hl ht
    unfold fnA_isRegister_14 at ht
    refine lv_iconst (v := (0 : Int32)) hx hb dX1_isRegister_14 (by decide) ?_
    exact K15 _ _ _ (0 : Int32) hS (lv_sub hl [] rfl) ht
  unfold fnA_isRegister at ht
  obtain ⟨H, hHe⟩ : ∃ H : Heap, H = s.heap := ⟨_, rfl⟩
  have hS : va_S A s.heap H [] := by rw [hHe]; exact va_S.rf
  rw [← hHe]
  refine lv_iload_n hx hb dX1_isRegister_0 rfl (lv_at hl 0 rfl) ?_
  refine lv_if_lt (tgt := 14) hx hb dX1_isRegister_1 (by decide) (fun g1 => ?_) (fun g1 => ?_)
  · have ht := (if_pos g1).symm.trans ht
    exact K14 _ _ _  hS (lv_sub hl [] rfl) ht
  · have ht := (if_neg g1).symm.trans ht
    refine lv_iload_n hx hb dX1_isRegister_4 rfl (lv_at hl 0 rfl) ?_
    refine lv_bipush (v := (8 : Int32)) hx hb dX1_isRegister_5 (by decide) ?_
    refine lv_icmp_ge (tgt := 14) hx hb dX1_isRegister_7 (by decide) (fun g2 => ?_) (fun g2 => ?_)
    · have ht := (if_pos g2).symm.trans ht
      exact K14 _ _ _  hS (lv_sub hl [] rfl) ht
    · have ht := (if_neg g2).symm.trans ht
      refine lv_iconst (v := (1 : Int32)) hx hb dX1_isRegister_10 (by decide) ?_
      refine lv_goto (tgt := 15) hx hb dX1_isRegister_11 (by decide) ?_
      exact K15 _ _ _ (1 : Int32) hS (lv_sub hl [] rfl) ht
def fnA_isWordAddress_22 (y0 : Int32) : Option (Int32 × Unit) := if bok y0 then (some (y0, ())) else none
def fnA_isWordAddress_21 : Option (Int32 × Unit) := fnA_isWordAddress_22 (0 : Int32)
def fnA_isWordAddress (a1 : Int32) : Option (Int32 × Unit) := if a1 < 0 then fnA_isWordAddress_21 else (if (4096 : Int32) ≤ a1 then fnA_isWordAddress_21 else (if (a1 &&& (1 : Int32)) = 0 then (fnA_isWordAddress_22 (1 : Int32)) else fnA_isWordAddress_21))
set_option maxRecDepth 100000 in
set_option maxHeartbeats 4000000 in
theorem ctA_isWordAddress (l : Launch) (sz : Nat) (a1 : Int32) (tg : Int32 × Unit) (ht : fnA_isWordAddress a1 = some tg) : Met l yX1_isWordAddress (Cond.code yX1_isWordAddress cX1_isWordAddress 1 (some .boolean) :: wAll) ({ frames := 0, cells := 0, slots := 0, locals := 0 } : Room) (va_Pc [.int a1] (prS sz)) (va_Qi (fun (x : Int32) (v : Unit) => x = tg.1 ∧ v = tg.2) poS (va_A [] sz)) 0 0 (va_A [] sz) := by
  refine mOfW (cc := cX1_isWordAddress) (maxL := 1) (ret := (some .boolean)) (by decide) rfl ?_
  intro p e s m args below meth c s₁ Q R hQ hR B hml hv
  obtain ⟨rfl, hsz⟩ := hv
  have hx := B.exec
  have hb := B.bytes
  have hr := B.returns
  have hts := atoms_spec (ws := Cond.code yX1_isWordAddress cX1_isWordAddress 1 (some .boolean) :: wAll) B.pre
  have hw : ∀ {w : Cond}, w ∈ wAll → w.before _ s = true := fun {w} h => hts w (List.mem_cons_of_mem _ h)
  have hown : s.vm.findClass RX1 = some m.cls := findClass_of_methodNamed B.named
  have hlocks := B.notSynchronized
  have hRf : 0 ≤ R.frames := by rw [hR]; exact Nat.le_refl _
  have hRl : 0 ≤ R.locals := by rw [hR]; exact Nat.le_refl _
  unfold prS at hsz
  subst hsz
  generalize hAe : va_A [] s.heap.size = A at hQ
  have hA : ∀ q : Nat, s.heap.size ≤ q → A q := fun q h => by rw [← hAe]; exact Or.inr h
  have hl := lv_entry ([.int a1]) (n := 1) (Nat.le_of_ble_eq_true rfl)
  rw [lg_entry_eq]
  generalize (lg_sl ([.int a1]) ++ List.replicate (1 - (lg_sl ([.int a1])).length) Slot.unset).toArray = ls at hl ⊢
  have hl : lv_has ls 1 [(0, .int a1)] := hl
  have K22 : ∀ (H : Heap) (locs : List Loc) (ls : Array Slot) (y0 : Int32) , va_S A s.heap H locs → lv_has ls 1 [] → fnA_isWordAddress_22 y0 = some tg → W p l e R s m ([.int a1] : List Value).toArray below meth c H locs 0 0 Q (F0 m 22 ls [.int y0]) := by
    intro H locs ls y0 hS hl ht
    unfold fnA_isWordAddress_22 at ht
    obtain ⟨b4, ht⟩ := oi_some ht
    have e9 := Option.some.inj ht
    subst hQ
    exact W.zret (ty := .boolean) (v := y0) hx hb hr (bok_n b4) (fun t ht9 hW => ⟨⟨y0, (), rfl, ⟨pr1 e9, pr2 e9⟩, trivial⟩, hS.F ht9⟩) hS.2.2 dX1_isWordAddress_22
  have K21 : ∀ (H : Heap) (locs : List Loc) (ls : Array Slot) , va_S A s.heap H locs → lv_has ls 1 [] → fnA_isWordAddress_21  = some tg → W p l e R s m ([.int a1] : List Value).toArray below meth c H locs 0 0 Q (F0 m 21 ls []) := by
    intro H locs ls  hS hl ht
    unfold fnA_isWordAddress_21 at ht
    refine lv_iconst (v := (0 : Int32)) hx hb dX1_isWordAddress_21 (by decide) ?_
    exact K22 _ _ _ (0 : Int32) hS (lv_sub hl [] rfl) ht
  unfold fnA_isWordAddress at ht
  obtain ⟨H, hHe⟩ : ∃ H : Heap, H = s.heap := ⟨_, rfl⟩
  have hS : va_S A s.heap H [] := by rw [hHe]; exact va_S.rf
  rw [← hHe]
  refine lv_iload_n hx hb dX1_isWordAddress_0 rfl (lv_at hl 0 rfl) ?_
  refine lv_if_lt (tgt := 21) hx hb dX1_isWordAddress_1 (by decide) (fun g1 => ?_) (fun g1 => ?_)
  · have ht := (if_pos g1).symm.trans ht
    exact K21 _ _ _  hS (lv_sub hl [] rfl) ht
  · have ht := (if_neg g1).symm.trans ht
    refine lv_iload_n hx hb dX1_isWordAddress_4 rfl (lv_at hl 0 rfl) ?_
    refine lv_sipush (v := (4096 : Int32)) hx hb dX1_isWordAddress_5 (by decide) ?_
    refine lv_icmp_ge (tgt := 21) hx hb dX1_isWordAddress_8 (by decide) (fun g2 => ?_) (fun g2 => ?_)
    · have ht := (if_pos g2).symm.trans ht
      exact K21 _ _ _  hS (lv_sub hl [] rfl) ht
    · have ht := (if_neg g2).symm.trans ht
      refine lv_iload_n hx hb dX1_isWordAddress_11 rfl (lv_at hl 0 rfl) ?_
      refine lv_iconst (v := (1 : Int32)) hx hb dX1_isWordAddress_12 (by decide) ?_
      refine lv_iand hx hb dX1_isWordAddress_13 ?_
      refine lv_if_ne (tgt := 21) hx hb dX1_isWordAddress_14 (by decide) (fun g3 => ?_) (fun g3 => ?_)
      · have ht := (if_neg g3).symm.trans ht
        exact K21 _ _ _  hS (lv_sub hl [] rfl) ht
      · have ht := (if_pos g3).symm.trans ht
        refine lv_iconst (v := (1 : Int32)) hx hb dX1_isWordAddress_17 (by decide) ?_
        refine lv_goto (tgt := 22) hx hb dX1_isWordAddress_18 (by decide) ?_
        exact K22 _ _ _ (1 : Int32) hS (lv_sub hl [] rfl) ht
def fnA_peek_19 (u : sA) (y0 : Int32) : Option (Int32 × sA) := some (y0, u)
def fnA_peek (u : sA) (a1 : Int32) : Option (Int32 × sA) := (fnA_isWordAddress a1).bind (fun r1 => if r1.1 = 0 then (fnA_peek_19 u (-1 : Int32)) else (if ixk (a1 >>> ((1 : Int32) &&& 31)) 2048 then (fnA_peek_19 u (u.1 (a1 >>> ((1 : Int32) &&& 31)).toNatClampNeg)) else none))
set_option maxRecDepth 100000 in
set_option maxHeartbeats 4000000 in
theorem ctA_peek (l : Launch) (D : va_G) (kI : ClassId) (tb : Nat) (o aw ar ak : Nat) (sz : Nat) (u : sA) (a1 : Int32) (tg : Int32 × sA) (ht : fnA_peek u a1 = some tg) : Met l yX1_peek (Cond.code yX1_peek cX1_peek 2 (some .int) :: wAll) ({ frames := 1, cells := 0, slots := 0, locals := 20 } : Room) (va_Pc [.ref o, .int a1] (prA D kI tb o aw ar ak sz u)) (va_Qi (fun (x : Int32) (v : sA) => x = tg.1 ∧ v = tg.2) (poG D kI (clA o aw ar ak kI) (va_A (clA o aw ar ak kI u) sz)) (va_A (clA o aw ar ak kI u) sz)) 0 0 (va_A (clA o aw ar ak kI u) sz) := by
  refine mOfW (cc := cX1_peek) (maxL := 2) (ret := (some .int)) (by decide) rfl ?_
  intro p e s m args below meth c s₁ Q R hQ hR B hml hv
  obtain ⟨rfl, hsz, hP, hK, hD0, hZ⟩ := hv
  have hx := B.exec
  have hb := B.bytes
  have hr := B.returns
  have hts := atoms_spec (ws := Cond.code yX1_peek cX1_peek 2 (some .int) :: wAll) B.pre
  have hw : ∀ {w : Cond}, w ∈ wAll → w.before _ s = true := fun {w} h => hts w (List.mem_cons_of_mem _ h)
  have hown : s.vm.findClass RX1 = some m.cls := findClass_of_methodNamed B.named
  have hlocks := B.notSynchronized
  have hRf : 1 ≤ R.frames := by rw [hR]; exact Nat.le_refl _
  have hRl : 20 ≤ R.locals := by rw [hR]; exact Nat.le_refl _
  subst hsz
  have hD := hD0.self (sz := s.heap.size)
  generalize hAe : va_A (clA o aw ar ak kI u) s.heap.size = A at hD hZ hQ
  have hA : ∀ q : Nat, s.heap.size ≤ q → A q := fun q h => by rw [← hAe]; exact Or.inr h
  have hl := lv_entry ([.ref o, .int a1]) (n := 2) (Nat.le_of_ble_eq_true rfl)
  rw [lg_entry_eq]
  generalize (lg_sl ([.ref o, .int a1]) ++ List.replicate (2 - (lg_sl ([.ref o, .int a1])).length) Slot.unset).toArray = ls at hl ⊢
  have hl : lv_has ls 2 [(0, .ref o), (1, .int a1)] := hl
  have hin0 : ∀ w ∈ u_ws RX1 TX1 7, w ∈ (Cond.code yX1_peek cX1_peek 2 (some .int) :: wAll) := fun w h => List.mem_cons_of_mem _ (w_flX1 w h)
  have K19 : ∀ (H : Heap) (locs : List Loc) (ls : Array Slot) (u : sA) (y0 : Int32) , va_P D vwCl (clA o aw ar ak kI u) H → va_D A (clA o aw ar ak kI u) → va_S A s.heap H locs → lv_has ls 2 [] → fnA_peek_19 u y0 = some tg → W p l e R s m ([.ref o, .int a1] : List Value).toArray below meth c H locs 0 0 Q (F0 m 19 ls [.int y0]) := by
    intro H locs ls u y0 hP hD hS hl ht
    unfold fnA_peek_19 at ht
    have e9 := Option.some.inj ht
    subst hQ
    exact W.iret (v := y0) hx hb hr (fun t ht9 hW => ⟨⟨y0, u, rfl, ⟨pr1 e9, pr2 e9⟩, ⟨by rw [ht9]; exact hP, va_K.moved hW.alike hK, hD⟩⟩, hS.F ht9⟩) hS.2.2 dX1_peek_19
  unfold fnA_peek at ht
  obtain ⟨H, hHe⟩ : ∃ H : Heap, H = s.heap := ⟨_, rfl⟩
  have hP : va_P D vwCl (clA o aw ar ak kI u) H := by rw [hHe]; exact hP
  have hS : va_S A s.heap H [] := by rw [hHe]; exact va_S.rf
  rw [← hHe]
  refine lv_iload_n hx hb dX1_peek_0 rfl (lv_at hl 1 rfl) ?_
  obtain ⟨r1, h2, ht⟩ := ob_some ht
  refine kS_i (va_runS (As := [.int a1]) (rest := []) ⟨hx, hb, hml, hown, hts⟩ (ctA_isWordAddress l H.size a1 r1 h2) (cwS 1 hts (gS w_m_X1_37 w_sm_yX1_isWordAddress w_init_MicroMill w_co_yX1_isWordAddress) rfl rfl rfl (by decide +kernel) ⟨Nat.le_trans (Nat.le_of_ble_eq_true rfl) hRf, Nat.le_trans (Nat.le_of_ble_eq_true rfl) hRl⟩) (preSt _) rfl rfl hl.1 rfl (lv_room (Nat.le_of_ble_eq_true rfl)) dX1_peek_1 ⟨Nat.zero_le _, Nat.zero_le _⟩) hP hS hA (fun H locs hP hS => ?_)
  refine lv_if_eq (tgt := 18) hx hb dX1_peek_4 (by decide) (fun g3 => ?_) (fun g3 => ?_)
  · have ht := (if_pos g3).symm.trans ht
    refine lv_iconst (v := (-1 : Int32)) hx hb dX1_peek_18 (by decide) ?_
    exact K19 _ _ _ u (-1 : Int32) hP hD hS (lv_sub hl [] rfl) ht
  · have ht := (if_neg g3).symm.trans ht
    refine lv_aload_n hx hb dX1_peek_7 rfl (lv_at hl 0 rfl) ?_
    refine va_get (D := D) (ci := 1) (v := .ref aw) (C := RX1) (T := TX1) (N := 7) hx hb hts hin0 hown hK hP 0 rfl rfl 0 (by decide) (hw w_f_X1_9) (fun _ h9 => h9) rfl dX1_peek_8 ?_
    refine lv_iload_n hx hb dX1_peek_11 rfl (lv_at hl 1 rfl) ?_
    refine lv_iconst (v := (1 : Int32)) hx hb dX1_peek_12 (by decide) ?_
    refine lv_ishr hx hb dX1_peek_13 ?_
    obtain ⟨b4, ht⟩ := oi_some ht
    refine va_iald hx hb hK hP 1 0 rfl rfl (ixk_in b4) dX1_peek_14 ?_
    refine lv_goto (tgt := 19) hx hb dX1_peek_15 (by decide) ?_
    exact K19 _ _ _ u (u.1 (a1 >>> ((1 : Int32) &&& 31)).toNatClampNeg) hP hD hS (lv_sub hl [] rfl) ht
def fnA_poke (u : sA) (a1 : Int32) (a2 : Int32) : Option (Int32 × sA) := (fnA_isWordAddress a1).bind (fun r1 => if r1.1 = 0 then (some ((0 : Int32), u)) else (if ixk (a1 >>> ((1 : Int32) &&& 31)) 2048 then (some ((1 : Int32), ((upd u.1 (a1 >>> ((1 : Int32) &&& 31)).toNatClampNeg (a2 &&& (65535 : Int32))), u.2.1, u.2.2.1, u.2.2.2.1, u.2.2.2.2.1, u.2.2.2.2.2.1, u.2.2.2.2.2.2))) else none))
set_option maxRecDepth 100000 in
set_option maxHeartbeats 4000000 in
theorem ctA_poke (l : Launch) (D : va_G) (kI : ClassId) (tb : Nat) (o aw ar ak : Nat) (sz : Nat) (u : sA) (a1 : Int32) (a2 : Int32) (tg : Int32 × sA) (ht : fnA_poke u a1 a2 = some tg) : Met l yX1_poke (Cond.code yX1_poke cX1_poke 3 (some .boolean) :: wAll) ({ frames := 1, cells := 0, slots := 0, locals := 20 } : Room) (va_Pc [.ref o, .int a1, .int a2] (prA D kI tb o aw ar ak sz u)) (va_Qi (fun (x : Int32) (v : sA) => x = tg.1 ∧ v = tg.2) (poG D kI (clA o aw ar ak kI) (va_A (clA o aw ar ak kI u) sz)) (va_A (clA o aw ar ak kI u) sz)) 0 0 (va_A (clA o aw ar ak kI u) sz) := by
  refine mOfW (cc := cX1_poke) (maxL := 3) (ret := (some .boolean)) (by decide) rfl ?_
  intro p e s m args below meth c s₁ Q R hQ hR B hml hv
  obtain ⟨rfl, hsz, hP, hK, hD0, hZ⟩ := hv
  have hx := B.exec
  have hb := B.bytes
  have hr := B.returns
  have hts := atoms_spec (ws := Cond.code yX1_poke cX1_poke 3 (some .boolean) :: wAll) B.pre
  have hw : ∀ {w : Cond}, w ∈ wAll → w.before _ s = true := fun {w} h => hts w (List.mem_cons_of_mem _ h)
  have hown : s.vm.findClass RX1 = some m.cls := findClass_of_methodNamed B.named
  have hlocks := B.notSynchronized
  have hRf : 1 ≤ R.frames := by rw [hR]; exact Nat.le_refl _
  have hRl : 20 ≤ R.locals := by rw [hR]; exact Nat.le_refl _
  subst hsz
  have hD := hD0.self (sz := s.heap.size)
  generalize hAe : va_A (clA o aw ar ak kI u) s.heap.size = A at hD hZ hQ
  have hA : ∀ q : Nat, s.heap.size ≤ q → A q := fun q h => by rw [← hAe]; exact Or.inr h
  have hl := lv_entry ([.ref o, .int a1, .int a2]) (n := 3) (Nat.le_of_ble_eq_true rfl)
  rw [lg_entry_eq]
  generalize (lg_sl ([.ref o, .int a1, .int a2]) ++ List.replicate (3 - (lg_sl ([.ref o, .int a1, .int a2])).length) Slot.unset).toArray = ls at hl ⊢
  have hl : lv_has ls 3 [(0, .ref o), (1, .int a1), (2, .int a2)] := hl
  have hin0 : ∀ w ∈ u_ws RX1 TX1 7, w ∈ (Cond.code yX1_poke cX1_poke 3 (some .boolean) :: wAll) := fun w h => List.mem_cons_of_mem _ (w_flX1 w h)
  unfold fnA_poke at ht
  obtain ⟨H, hHe⟩ : ∃ H : Heap, H = s.heap := ⟨_, rfl⟩
  have hP : va_P D vwCl (clA o aw ar ak kI u) H := by rw [hHe]; exact hP
  have hS : va_S A s.heap H [] := by rw [hHe]; exact va_S.rf
  rw [← hHe]
  refine lv_iload_n hx hb dX1_poke_0 rfl (lv_at hl 1 rfl) ?_
  obtain ⟨r1, h2, ht⟩ := ob_some ht
  refine kS_i (va_runS (As := [.int a1]) (rest := []) ⟨hx, hb, hml, hown, hts⟩ (ctA_isWordAddress l H.size a1 r1 h2) (cwS 1 hts (gS w_m_X1_37 w_sm_yX1_isWordAddress w_init_MicroMill w_co_yX1_isWordAddress) rfl rfl rfl (by decide +kernel) ⟨Nat.le_trans (Nat.le_of_ble_eq_true rfl) hRf, Nat.le_trans (Nat.le_of_ble_eq_true rfl) hRl⟩) (preSt _) rfl rfl hl.1 rfl (lv_room (Nat.le_of_ble_eq_true rfl)) dX1_poke_1 ⟨Nat.zero_le _, Nat.zero_le _⟩) hP hS hA (fun H locs hP hS => ?_)
  refine lv_if_ne (tgt := 9) hx hb dX1_poke_4 (by decide) (fun g3 => ?_) (fun g3 => ?_)
  · have ht := (if_neg g3).symm.trans ht
    refine lv_aload_n hx hb dX1_poke_9 rfl (lv_at hl 0 rfl) ?_
    refine va_get (D := D) (ci := 1) (v := .ref aw) (C := RX1) (T := TX1) (N := 7) hx hb hts hin0 hown hK hP 0 rfl rfl 0 (by decide) (hw w_f_X1_9) (fun _ h9 => h9) rfl dX1_poke_10 ?_
    refine lv_iload_n hx hb dX1_poke_13 rfl (lv_at hl 1 rfl) ?_
    refine lv_iconst (v := (1 : Int32)) hx hb dX1_poke_14 (by decide) ?_
    refine lv_ishr hx hb dX1_poke_15 ?_
    refine lv_iload_n hx hb dX1_poke_16 rfl (lv_at hl 2 rfl) ?_
    refine lv_ldc (v := (65535 : Int32)) hx hb hown (hw w_k_X1_41) dX1_poke_17 ?_
    refine lv_iand hx hb dX1_poke_19 ?_
    obtain ⟨b4, ht⟩ := oi_some ht
    refine va_iast hx hb hK hP hD hS 1 0 rfl rfl (ixk_in b4) dX1_poke_20 (fun H locs hP hD hS => ?_)
    have hP : va_P D vwCl (clA o aw ar ak kI ((upd u.1 (a1 >>> ((1 : Int32) &&& 31)).toNatClampNeg (a2 &&& (65535 : Int32))), u.2.1, u.2.2.1, u.2.2.2.1, u.2.2.2.2.1, u.2.2.2.2.2.1, u.2.2.2.2.2.2)) H := hP
    have hD : va_D A (clA o aw ar ak kI ((upd u.1 (a1 >>> ((1 : Int32) &&& 31)).toNatClampNeg (a2 &&& (65535 : Int32))), u.2.1, u.2.2.1, u.2.2.2.1, u.2.2.2.2.1, u.2.2.2.2.2.1, u.2.2.2.2.2.2)) := hD
    refine lv_iconst (v := (1 : Int32)) hx hb dX1_poke_21 (by decide) ?_
    have e9 := Option.some.inj ht
    subst hQ
    exact W.zret (ty := .boolean) (v := (1 : Int32)) hx hb hr (by decide) (fun t ht9 hW => ⟨⟨(1 : Int32), ((upd u.1 (a1 >>> ((1 : Int32) &&& 31)).toNatClampNeg (a2 &&& (65535 : Int32))), u.2.1, u.2.2.1, u.2.2.2.1, u.2.2.2.2.1, u.2.2.2.2.2.1, u.2.2.2.2.2.2), rfl, ⟨pr1 e9, pr2 e9⟩, ⟨by rw [ht9]; exact hP, va_K.moved hW.alike hK, hD⟩⟩, hS.F ht9⟩) hS.2.2 dX1_poke_22
  · have ht := (if_pos g3).symm.trans ht
    refine lv_iconst (v := (0 : Int32)) hx hb dX1_poke_7 (by decide) ?_
    have e9 := Option.some.inj ht
    subst hQ
    exact W.zret (ty := .boolean) (v := (0 : Int32)) hx hb hr (by decide) (fun t ht9 hW => ⟨⟨(0 : Int32), u, rfl, ⟨pr1 e9, pr2 e9⟩, ⟨by rw [ht9]; exact hP, va_K.moved hW.alike hK, hD⟩⟩, hS.F ht9⟩) hS.2.2 dX1_poke_8
def fnA_register_17 (u : sA) (y0 : Int32) : Option (Int32 × sA) := some (y0, u)
def fnA_register (u : sA) (a1 : Int32) : Option (Int32 × sA) := (fnA_isRegister a1).bind (fun r1 => if r1.1 = 0 then (fnA_register_17 u (-1 : Int32)) else (if ixk a1 8 then (fnA_register_17 u (u.2.1 a1.toNatClampNeg)) else none))
set_option maxRecDepth 100000 in
set_option maxHeartbeats 4000000 in
theorem ctA_register (l : Launch) (D : va_G) (kI : ClassId) (tb : Nat) (o aw ar ak : Nat) (sz : Nat) (u : sA) (a1 : Int32) (tg : Int32 × sA) (ht : fnA_register u a1 = some tg) : Met l yX1_register (Cond.code yX1_register cX1_register 2 (some .int) :: wAll) ({ frames := 1, cells := 0, slots := 0, locals := 20 } : Room) (va_Pc [.ref o, .int a1] (prA D kI tb o aw ar ak sz u)) (va_Qi (fun (x : Int32) (v : sA) => x = tg.1 ∧ v = tg.2) (poG D kI (clA o aw ar ak kI) (va_A (clA o aw ar ak kI u) sz)) (va_A (clA o aw ar ak kI u) sz)) 0 0 (va_A (clA o aw ar ak kI u) sz) := by
  refine mOfW (cc := cX1_register) (maxL := 2) (ret := (some .int)) (by decide) rfl ?_
  intro p e s m args below meth c s₁ Q R hQ hR B hml hv
  obtain ⟨rfl, hsz, hP, hK, hD0, hZ⟩ := hv
  have hx := B.exec
  have hb := B.bytes
  have hr := B.returns
  have hts := atoms_spec (ws := Cond.code yX1_register cX1_register 2 (some .int) :: wAll) B.pre
  have hw : ∀ {w : Cond}, w ∈ wAll → w.before _ s = true := fun {w} h => hts w (List.mem_cons_of_mem _ h)
  have hown : s.vm.findClass RX1 = some m.cls := findClass_of_methodNamed B.named
  have hlocks := B.notSynchronized
  have hRf : 1 ≤ R.frames := by rw [hR]; exact Nat.le_refl _
  have hRl : 20 ≤ R.locals := by rw [hR]; exact Nat.le_refl _
  subst hsz
  have hD := hD0.self (sz := s.heap.size)
  generalize hAe : va_A (clA o aw ar ak kI u) s.heap.size = A at hD hZ hQ
  have hA : ∀ q : Nat, s.heap.size ≤ q → A q := fun q h => by rw [← hAe]; exact Or.inr h
  have hl := lv_entry ([.ref o, .int a1]) (n := 2) (Nat.le_of_ble_eq_true rfl)
  rw [lg_entry_eq]
  generalize (lg_sl ([.ref o, .int a1]) ++ List.replicate (2 - (lg_sl ([.ref o, .int a1])).length) Slot.unset).toArray = ls at hl ⊢
  have hl : lv_has ls 2 [(0, .ref o), (1, .int a1)] := hl
  have hin0 : ∀ w ∈ u_ws RX1 TX1 7, w ∈ (Cond.code yX1_register cX1_register 2 (some .int) :: wAll) := fun w h => List.mem_cons_of_mem _ (w_flX1 w h)
  have K17 : ∀ (H : Heap) (locs : List Loc) (ls : Array Slot) (u : sA) (y0 : Int32) , va_P D vwCl (clA o aw ar ak kI u) H → va_D A (clA o aw ar ak kI u) → va_S A s.heap H locs → lv_has ls 2 [] → fnA_register_17 u y0 = some tg → W p l e R s m ([.ref o, .int a1] : List Value).toArray below meth c H locs 0 0 Q (F0 m 17 ls [.int y0]) := by
    intro H locs ls u y0 hP hD hS hl ht
    unfold fnA_register_17 at ht
    have e9 := Option.some.inj ht
    subst hQ
    exact W.iret (v := y0) hx hb hr (fun t ht9 hW => ⟨⟨y0, u, rfl, ⟨pr1 e9, pr2 e9⟩, ⟨by rw [ht9]; exact hP, va_K.moved hW.alike hK, hD⟩⟩, hS.F ht9⟩) hS.2.2 dX1_register_17
  unfold fnA_register at ht
  obtain ⟨H, hHe⟩ : ∃ H : Heap, H = s.heap := ⟨_, rfl⟩
  have hP : va_P D vwCl (clA o aw ar ak kI u) H := by rw [hHe]; exact hP
  have hS : va_S A s.heap H [] := by rw [hHe]; exact va_S.rf
  rw [← hHe]
  refine lv_iload_n hx hb dX1_register_0 rfl (lv_at hl 1 rfl) ?_
  obtain ⟨r1, h2, ht⟩ := ob_some ht
  refine kS_i (va_runS (As := [.int a1]) (rest := []) ⟨hx, hb, hml, hown, hts⟩ (ctA_isRegister l H.size a1 r1 h2) (cwS 1 hts (gS w_m_X1_42 w_sm_yX1_isRegister w_init_MicroMill w_co_yX1_isRegister) rfl rfl rfl (by decide +kernel) ⟨Nat.le_trans (Nat.le_of_ble_eq_true rfl) hRf, Nat.le_trans (Nat.le_of_ble_eq_true rfl) hRl⟩) (preSt _) rfl rfl hl.1 rfl (lv_room (Nat.le_of_ble_eq_true rfl)) dX1_register_1 ⟨Nat.zero_le _, Nat.zero_le _⟩) hP hS hA (fun H locs hP hS => ?_)
  refine lv_if_eq (tgt := 16) hx hb dX1_register_4 (by decide) (fun g3 => ?_) (fun g3 => ?_)
  · have ht := (if_pos g3).symm.trans ht
    refine lv_iconst (v := (-1 : Int32)) hx hb dX1_register_16 (by decide) ?_
    exact K17 _ _ _ u (-1 : Int32) hP hD hS (lv_sub hl [] rfl) ht
  · have ht := (if_neg g3).symm.trans ht
    refine lv_aload_n hx hb dX1_register_7 rfl (lv_at hl 0 rfl) ?_
    refine va_get (D := D) (ci := 1) (v := .ref ar) (C := RX1) (T := TX1) (N := 7) hx hb hts hin0 hown hK hP 0 rfl rfl 1 (by decide) (hw w_f_X1_13) (fun _ h9 => h9) rfl dX1_register_8 ?_
    refine lv_iload_n hx hb dX1_register_11 rfl (lv_at hl 1 rfl) ?_
    obtain ⟨b4, ht⟩ := oi_some ht
    refine va_iald hx hb hK hP 2 0 rfl rfl (ixk_in b4) dX1_register_12 ?_
    refine lv_goto (tgt := 17) hx hb dX1_register_13 (by decide) ?_
    exact K17 _ _ _ u (u.2.1 a1.toNatClampNeg) hP hD hS (lv_sub hl [] rfl) ht
def fnA_run_36 (u : sA) (x3 : Int32) : Option (Int32 × sA) := some (x3, u)
def fnA_run_10 : Nat → sA → Int32 → Int32 → Option (Int32 × sA)
  | 0, _, _, _ => none
  | fk + 1, u, x2, x3 => if x2 ≤ x3 then (fnA_run_36 u x3) else (if u.2.2.1 = 0 then ((fnA_doInstruction u).bind (fun r3 => if r3.1 = (-1 : Int32) then (fnA_run_36 r3.2 x3) else (fnA_run_10 fk r3.2 x2 (x3 + (1 : Int32))))) else (fnA_run_36 u x3))
def fnA_run (fu : Nat) (u : sA) (a1 : Int32) : Option (Int32 × sA) := fnA_run_10 fu u (if (10000 : Int32) < a1 then (10000 : Int32) else a1) (0 : Int32)
set_option maxRecDepth 100000 in
set_option maxHeartbeats 4000000 in
theorem ctA_run (l : Launch) (D : va_G) (kI : ClassId) (tb : Nat) (o aw ar ak : Nat) (sz : Nat) (fu : Nat) (u : sA) (a1 : Int32) (tg : Int32 × sA) (ht : fnA_run fu u a1 = some tg) : Met l yX1_run (Cond.code yX1_run cX1_run 4 (some .int) :: wAll) ({ frames := 6, cells := 0, slots := 0, locals := 141 } : Room) (va_Pc [.ref o, .int a1] (prA D kI tb o aw ar ak sz u)) (va_Qi (fun (x : Int32) (v : sA) => x = tg.1 ∧ v = tg.2) (poG D kI (clA o aw ar ak kI) (va_A (clA o aw ar ak kI u) sz)) (va_A (clA o aw ar ak kI u) sz)) 0 0 (va_A (clA o aw ar ak kI u) sz) := by
  refine mOfW (cc := cX1_run) (maxL := 4) (ret := (some .int)) (by decide) rfl ?_
  intro p e s m args below meth c s₁ Q R hQ hR B hml hv
  obtain ⟨rfl, hsz, hP, hK, hD0, hZ⟩ := hv
  have hx := B.exec
  have hb := B.bytes
  have hr := B.returns
  have hts := atoms_spec (ws := Cond.code yX1_run cX1_run 4 (some .int) :: wAll) B.pre
  have hw : ∀ {w : Cond}, w ∈ wAll → w.before _ s = true := fun {w} h => hts w (List.mem_cons_of_mem _ h)
  have hown : s.vm.findClass RX1 = some m.cls := findClass_of_methodNamed B.named
  have hlocks := B.notSynchronized
  have hRf : 6 ≤ R.frames := by rw [hR]; exact Nat.le_refl _
  have hRl : 141 ≤ R.locals := by rw [hR]; exact Nat.le_refl _
  subst hsz
  have hD := hD0.self (sz := s.heap.size)
  generalize hAe : va_A (clA o aw ar ak kI u) s.heap.size = A at hD hZ hQ
  have hA : ∀ q : Nat, s.heap.size ≤ q → A q := fun q h => by rw [← hAe]; exact Or.inr h
  have hl := lv_entry ([.ref o, .int a1]) (n := 4) (Nat.le_of_ble_eq_true rfl)
  rw [lg_entry_eq]
  generalize (lg_sl ([.ref o, .int a1]) ++ List.replicate (4 - (lg_sl ([.ref o, .int a1])).length) Slot.unset).toArray = ls at hl ⊢
  have hl : lv_has ls 4 [(0, .ref o), (1, .int a1)] := hl
  have hin0 : ∀ w ∈ u_ws RX1 TX1 7, w ∈ (Cond.code yX1_run cX1_run 4 (some .int) :: wAll) := fun w h => List.mem_cons_of_mem _ (w_flX1 w h)
  have K36 : ∀ (H : Heap) (locs : List Loc) (ls : Array Slot) (u : sA) (x3 : Int32) , va_P D vwCl (clA o aw ar ak kI u) H → va_D A (clA o aw ar ak kI u) → va_S A s.heap H locs → lv_has ls 4 [(3, .int x3)] → fnA_run_36 u x3 = some tg → W p l e R s m ([.ref o, .int a1] : List Value).toArray below meth c H locs 0 0 Q (F0 m 36 ls []) := by
    intro H locs ls u x3 hP hD hS hl ht
    unfold fnA_run_36 at ht
    refine lv_iload_n hx hb dX1_run_36 rfl (lv_at hl 0 rfl) ?_
    have e9 := Option.some.inj ht
    subst hQ
    exact W.iret (v := x3) hx hb hr (fun t ht9 hW => ⟨⟨x3, u, rfl, ⟨pr1 e9, pr2 e9⟩, ⟨by rw [ht9]; exact hP, va_K.moved hW.alike hK, hD⟩⟩, hS.F ht9⟩) hS.2.2 dX1_run_37
  have K10 : ∀ (fu : Nat) (H : Heap) (locs : List Loc) (ls : Array Slot) (u : sA) (x2 : Int32) (x3 : Int32) , va_P D vwCl (clA o aw ar ak kI u) H → va_D A (clA o aw ar ak kI u) → va_S A s.heap H locs → lv_has ls 4 [(0, .ref o), (2, .int x2), (3, .int x3)] → fnA_run_10 fu u x2 x3 = some tg → W p l e R s m ([.ref o, .int a1] : List Value).toArray below meth c H locs 0 0 Q (F0 m 10 ls []) := by
    intro fu
    induction fu with
    | zero => intro H locs ls u x2 x3 hP hD hS hl ht; cases ht
    | succ fk ih =>
      intro H locs ls u x2 x3 hP hD hS hl ht
      unfold fnA_run_10 at ht
      refine lv_iload_n hx hb dX1_run_10 rfl (lv_at hl 2 rfl) ?_
      refine lv_iload_n hx hb dX1_run_11 rfl (lv_at hl 1 rfl) ?_
      refine lv_icmp_ge (tgt := 36) hx hb dX1_run_12 (by decide) (fun g1 => ?_) (fun g1 => ?_)
      · have ht := (if_pos g1).symm.trans ht
        exact K36 _ _ _ u x3 hP hD hS (lv_sub hl [2] rfl) ht
      · have ht := (if_neg g1).symm.trans ht
        refine lv_aload_n hx hb dX1_run_15 rfl (lv_at hl 0 rfl) ?_
        refine va_get (D := D) (ci := 1) (v := .int u.2.2.1) (C := RX1) (T := TX1) (N := 7) hx hb hts hin0 hown hK hP 0 rfl rfl 3 (by decide) (hw w_f_X1_23) (fun _ h9 => h9) rfl dX1_run_16 ?_
        refine lv_if_ne (tgt := 36) hx hb dX1_run_19 (by decide) (fun g2 => ?_) (fun g2 => ?_)
        · have ht := (if_neg g2).symm.trans ht
          exact K36 _ _ _ u x3 hP hD hS (lv_sub hl [2] rfl) ht
        · have ht := (if_pos g2).symm.trans ht
          refine lv_aload_n hx hb dX1_run_22 rfl (lv_at hl 0 rfl) ?_
          obtain ⟨r3, h4, ht⟩ := ob_some ht
          refine kG_i (cl := clA o aw ar ak kI) (u := u) (va_runV (As := []) (rest := []) ⟨hx, hb, hml, hown, hts⟩ (ctA_doInstruction l D kI tb o aw ar ak H.size u  r3 h4) (cwV 0 hts (gV w_m_X1_49 w_im_yX1_doInstruction w_sel_yX1_doInstruction w_init_MicroMill w_co_yX1_doInstruction) rfl rfl rfl (by decide +kernel) ⟨Nat.le_trans (Nat.le_of_ble_eq_true rfl) hRf, Nat.le_trans (Nat.le_of_ble_eq_true rfl) hRl⟩) (preA hK hP hD hS hA hZ _) rfl rfl hl.1 rfl (lv_room (Nat.le_of_ble_eq_true rfl)) dX1_run_23 ⟨Nat.zero_le _, Nat.zero_le _⟩) hD hS hA (fun H locs hP hD hS => ?_)
          refine lv_iconst (v := (-1 : Int32)) hx hb dX1_run_26 (by decide) ?_
          refine lv_icmp_eq (tgt := 36) hx hb dX1_run_27 (by decide) (fun g5 => ?_) (fun g5 => ?_)
          · have ht := (if_pos g5).symm.trans ht
            exact K36 _ _ _ r3.2 x3 hP hD hS (lv_sub hl [2] rfl) ht
          · have ht := (if_neg g5).symm.trans ht
            refine lv_iinc (v := (x3 + (1 : Int32))) (lv' := [(3, .int (x3 + (1 : Int32))), (0, .ref o), (2, .int x2)]) hx hb dX1_run_30 hl (k := 2) rfl (by rfl) (by decide) rfl (fun ls hl => ?_)
            refine lv_goto (tgt := 10) hx hb dX1_run_33 (by decide) ?_
            exact ih _ _ _ r3.2 x2 (x3 + (1 : Int32)) hP hD hS (lv_sub hl [1, 2, 0] rfl) ht
  unfold fnA_run at ht
  obtain ⟨H, hHe⟩ : ∃ H : Heap, H = s.heap := ⟨_, rfl⟩
  have hP : va_P D vwCl (clA o aw ar ak kI u) H := by rw [hHe]; exact hP
  have hS : va_S A s.heap H [] := by rw [hHe]; exact va_S.rf
  rw [← hHe]
  refine lv_iload_n hx hb dX1_run_0 rfl (lv_at hl 1 rfl) ?_
  refine lv_sipush (v := (10000 : Int32)) hx hb dX1_run_1 (by decide) ?_
  refine va_mmin hx hb (by rw [hml]; exact hl.1.symm) hown (hw w_m_X1_52) (hw w_sm_Lib_Math_min_name) (hw w_init_java_lang_Math) (hw w_co_min) (Nat.le_trans (Nat.le_of_ble_eq_true rfl) hRf) (Nat.le_trans (Nat.le_of_ble_eq_true rfl) hRl) (Nat.zero_le _) (Nat.zero_le _) dX1_run_4 ?_
  refine lv_istore_n (lv' := [(2, .int (if (10000 : Int32) < a1 then (10000 : Int32) else a1)), (0, .ref o), (1, .int a1)]) hx hb dX1_run_7 rfl hl (by decide) rfl (fun ls hl => ?_)
  refine lv_iconst (v := (0 : Int32)) hx hb dX1_run_8 (by decide) ?_
  refine lv_istore_n (lv' := [(3, .int (0 : Int32)), (2, .int (if (10000 : Int32) < a1 then (10000 : Int32) else a1)), (0, .ref o), (1, .int a1)]) hx hb dX1_run_9 rfl hl (by decide) rfl (fun ls hl => ?_)
  exact K10 fu _ _ _ u (if (10000 : Int32) < a1 then (10000 : Int32) else a1) (0 : Int32) hP hD hS (lv_sub hl [2, 1, 0] rfl) ht
def fnA_set (u : sA) (a1 : Int32) (a2 : Int32) : Option (Int32 × sA) := (fnA_isRegister a1).bind (fun r1 => if r1.1 = 0 then (some ((0 : Int32), u)) else (if ixk a1 8 then (some ((1 : Int32), (u.1, (upd u.2.1 a1.toNatClampNeg (a2 &&& (65535 : Int32))), u.2.2.1, u.2.2.2.1, u.2.2.2.2.1, u.2.2.2.2.2.1, u.2.2.2.2.2.2))) else none))
set_option maxRecDepth 100000 in
set_option maxHeartbeats 4000000 in
theorem ctA_set (l : Launch) (D : va_G) (kI : ClassId) (tb : Nat) (o aw ar ak : Nat) (sz : Nat) (u : sA) (a1 : Int32) (a2 : Int32) (tg : Int32 × sA) (ht : fnA_set u a1 a2 = some tg) : Met l yX1_set (Cond.code yX1_set cX1_set 3 (some .boolean) :: wAll) ({ frames := 1, cells := 0, slots := 0, locals := 20 } : Room) (va_Pc [.ref o, .int a1, .int a2] (prA D kI tb o aw ar ak sz u)) (va_Qi (fun (x : Int32) (v : sA) => x = tg.1 ∧ v = tg.2) (poG D kI (clA o aw ar ak kI) (va_A (clA o aw ar ak kI u) sz)) (va_A (clA o aw ar ak kI u) sz)) 0 0 (va_A (clA o aw ar ak kI u) sz) := by
  refine mOfW (cc := cX1_set) (maxL := 3) (ret := (some .boolean)) (by decide) rfl ?_
  intro p e s m args below meth c s₁ Q R hQ hR B hml hv
  obtain ⟨rfl, hsz, hP, hK, hD0, hZ⟩ := hv
  have hx := B.exec
  have hb := B.bytes
  have hr := B.returns
  have hts := atoms_spec (ws := Cond.code yX1_set cX1_set 3 (some .boolean) :: wAll) B.pre
  have hw : ∀ {w : Cond}, w ∈ wAll → w.before _ s = true := fun {w} h => hts w (List.mem_cons_of_mem _ h)
  have hown : s.vm.findClass RX1 = some m.cls := findClass_of_methodNamed B.named
  have hlocks := B.notSynchronized
  have hRf : 1 ≤ R.frames := by rw [hR]; exact Nat.le_refl _
  have hRl : 20 ≤ R.locals := by rw [hR]; exact Nat.le_refl _
  subst hsz
  have hD := hD0.self (sz := s.heap.size)
  generalize hAe : va_A (clA o aw ar ak kI u) s.heap.size = A at hD hZ hQ
  have hA : ∀ q : Nat, s.heap.size ≤ q → A q := fun q h => by rw [← hAe]; exact Or.inr h
  have hl := lv_entry ([.ref o, .int a1, .int a2]) (n := 3) (Nat.le_of_ble_eq_true rfl)
  rw [lg_entry_eq]
  generalize (lg_sl ([.ref o, .int a1, .int a2]) ++ List.replicate (3 - (lg_sl ([.ref o, .int a1, .int a2])).length) Slot.unset).toArray = ls at hl ⊢
  have hl : lv_has ls 3 [(0, .ref o), (1, .int a1), (2, .int a2)] := hl
  have hin0 : ∀ w ∈ u_ws RX1 TX1 7, w ∈ (Cond.code yX1_set cX1_set 3 (some .boolean) :: wAll) := fun w h => List.mem_cons_of_mem _ (w_flX1 w h)
  unfold fnA_set at ht
  obtain ⟨H, hHe⟩ : ∃ H : Heap, H = s.heap := ⟨_, rfl⟩
  have hP : va_P D vwCl (clA o aw ar ak kI u) H := by rw [hHe]; exact hP
  have hS : va_S A s.heap H [] := by rw [hHe]; exact va_S.rf
  rw [← hHe]
  refine lv_iload_n hx hb dX1_set_0 rfl (lv_at hl 1 rfl) ?_
  obtain ⟨r1, h2, ht⟩ := ob_some ht
  refine kS_i (va_runS (As := [.int a1]) (rest := []) ⟨hx, hb, hml, hown, hts⟩ (ctA_isRegister l H.size a1 r1 h2) (cwS 1 hts (gS w_m_X1_42 w_sm_yX1_isRegister w_init_MicroMill w_co_yX1_isRegister) rfl rfl rfl (by decide +kernel) ⟨Nat.le_trans (Nat.le_of_ble_eq_true rfl) hRf, Nat.le_trans (Nat.le_of_ble_eq_true rfl) hRl⟩) (preSt _) rfl rfl hl.1 rfl (lv_room (Nat.le_of_ble_eq_true rfl)) dX1_set_1 ⟨Nat.zero_le _, Nat.zero_le _⟩) hP hS hA (fun H locs hP hS => ?_)
  refine lv_if_ne (tgt := 9) hx hb dX1_set_4 (by decide) (fun g3 => ?_) (fun g3 => ?_)
  · have ht := (if_neg g3).symm.trans ht
    refine lv_aload_n hx hb dX1_set_9 rfl (lv_at hl 0 rfl) ?_
    refine va_get (D := D) (ci := 1) (v := .ref ar) (C := RX1) (T := TX1) (N := 7) hx hb hts hin0 hown hK hP 0 rfl rfl 1 (by decide) (hw w_f_X1_13) (fun _ h9 => h9) rfl dX1_set_10 ?_
    refine lv_iload_n hx hb dX1_set_13 rfl (lv_at hl 1 rfl) ?_
    refine lv_iload_n hx hb dX1_set_14 rfl (lv_at hl 2 rfl) ?_
    refine lv_ldc (v := (65535 : Int32)) hx hb hown (hw w_k_X1_41) dX1_set_15 ?_
    refine lv_iand hx hb dX1_set_17 ?_
    obtain ⟨b4, ht⟩ := oi_some ht
    refine va_iast hx hb hK hP hD hS 2 0 rfl rfl (ixk_in b4) dX1_set_18 (fun H locs hP hD hS => ?_)
    have hP : va_P D vwCl (clA o aw ar ak kI (u.1, (upd u.2.1 a1.toNatClampNeg (a2 &&& (65535 : Int32))), u.2.2.1, u.2.2.2.1, u.2.2.2.2.1, u.2.2.2.2.2.1, u.2.2.2.2.2.2)) H := hP
    have hD : va_D A (clA o aw ar ak kI (u.1, (upd u.2.1 a1.toNatClampNeg (a2 &&& (65535 : Int32))), u.2.2.1, u.2.2.2.1, u.2.2.2.2.1, u.2.2.2.2.2.1, u.2.2.2.2.2.2)) := hD
    refine lv_iconst (v := (1 : Int32)) hx hb dX1_set_19 (by decide) ?_
    have e9 := Option.some.inj ht
    subst hQ
    exact W.zret (ty := .boolean) (v := (1 : Int32)) hx hb hr (by decide) (fun t ht9 hW => ⟨⟨(1 : Int32), (u.1, (upd u.2.1 a1.toNatClampNeg (a2 &&& (65535 : Int32))), u.2.2.1, u.2.2.2.1, u.2.2.2.2.1, u.2.2.2.2.2.1, u.2.2.2.2.2.2), rfl, ⟨pr1 e9, pr2 e9⟩, ⟨by rw [ht9]; exact hP, va_K.moved hW.alike hK, hD⟩⟩, hS.F ht9⟩) hS.2.2 dX1_set_20
  · have ht := (if_pos g3).symm.trans ht
    refine lv_iconst (v := (0 : Int32)) hx hb dX1_set_7 (by decide) ?_
    have e9 := Option.some.inj ht
    subst hQ
    exact W.zret (ty := .boolean) (v := (0 : Int32)) hx hb hr (by decide) (fun t ht9 hW => ⟨⟨(0 : Int32), u, rfl, ⟨pr1 e9, pr2 e9⟩, ⟨by rw [ht9]; exact hP, va_K.moved hW.alike hK, hD⟩⟩, hS.F ht9⟩) hS.2.2 dX1_set_8
def fnA_step_15 (u : sA) (y0 : Int32) : Option (Int32 × sA) := some (y0, u)
def fnA_step (u : sA) : Option (Int32 × sA) := if u.2.2.1 = 0 then ((fnA_doInstruction u).bind (fun r2 => fnA_step_15 r2.2 r2.1)) else (fnA_step_15 u (-1 : Int32))
set_option maxRecDepth 100000 in
set_option maxHeartbeats 4000000 in
theorem ctA_step (l : Launch) (D : va_G) (kI : ClassId) (tb : Nat) (o aw ar ak : Nat) (sz : Nat) (u : sA) (tg : Int32 × sA) (ht : fnA_step u  = some tg) : Met l yX1_step (Cond.code yX1_step cX1_step 1 (some .int) :: wAll) ({ frames := 6, cells := 0, slots := 0, locals := 141 } : Room) (va_Pc [.ref o] (prA D kI tb o aw ar ak sz u)) (va_Qi (fun (x : Int32) (v : sA) => x = tg.1 ∧ v = tg.2) (poG D kI (clA o aw ar ak kI) (va_A (clA o aw ar ak kI u) sz)) (va_A (clA o aw ar ak kI u) sz)) 0 0 (va_A (clA o aw ar ak kI u) sz) := by
  refine mOfW (cc := cX1_step) (maxL := 1) (ret := (some .int)) (by decide) rfl ?_
  intro p e s m args below meth c s₁ Q R hQ hR B hml hv
  obtain ⟨rfl, hsz, hP, hK, hD0, hZ⟩ := hv
  have hx := B.exec
  have hb := B.bytes
  have hr := B.returns
  have hts := atoms_spec (ws := Cond.code yX1_step cX1_step 1 (some .int) :: wAll) B.pre
  have hw : ∀ {w : Cond}, w ∈ wAll → w.before _ s = true := fun {w} h => hts w (List.mem_cons_of_mem _ h)
  have hown : s.vm.findClass RX1 = some m.cls := findClass_of_methodNamed B.named
  have hlocks := B.notSynchronized
  have hRf : 6 ≤ R.frames := by rw [hR]; exact Nat.le_refl _
  have hRl : 141 ≤ R.locals := by rw [hR]; exact Nat.le_refl _
  subst hsz
  have hD := hD0.self (sz := s.heap.size)
  generalize hAe : va_A (clA o aw ar ak kI u) s.heap.size = A at hD hZ hQ
  have hA : ∀ q : Nat, s.heap.size ≤ q → A q := fun q h => by rw [← hAe]; exact Or.inr h
  have hl := lv_entry ([.ref o]) (n := 1) (Nat.le_of_ble_eq_true rfl)
  rw [lg_entry_eq]
  generalize (lg_sl ([.ref o]) ++ List.replicate (1 - (lg_sl ([.ref o])).length) Slot.unset).toArray = ls at hl ⊢
  have hl : lv_has ls 1 [(0, .ref o)] := hl
  have hin0 : ∀ w ∈ u_ws RX1 TX1 7, w ∈ (Cond.code yX1_step cX1_step 1 (some .int) :: wAll) := fun w h => List.mem_cons_of_mem _ (w_flX1 w h)
  have K15 : ∀ (H : Heap) (locs : List Loc) (ls : Array Slot) (u : sA) (y0 : Int32) , va_P D vwCl (clA o aw ar ak kI u) H → va_D A (clA o aw ar ak kI u) → va_S A s.heap H locs → lv_has ls 1 [] → fnA_step_15 u y0 = some tg → W p l e R s m ([.ref o] : List Value).toArray below meth c H locs 0 0 Q (F0 m 15 ls [.int y0]) := by
    intro H locs ls u y0 hP hD hS hl ht
    unfold fnA_step_15 at ht
    have e9 := Option.some.inj ht
    subst hQ
    exact W.iret (v := y0) hx hb hr (fun t ht9 hW => ⟨⟨y0, u, rfl, ⟨pr1 e9, pr2 e9⟩, ⟨by rw [ht9]; exact hP, va_K.moved hW.alike hK, hD⟩⟩, hS.F ht9⟩) hS.2.2 dX1_step_15
  unfold fnA_step at ht
  obtain ⟨H, hHe⟩ : ∃ H : Heap, H = s.heap := ⟨_, rfl⟩
  have hP : va_P D vwCl (clA o aw ar ak kI u) H := by rw [hHe]; exact hP
  have hS : va_S A s.heap H [] := by rw [hHe]; exact va_S.rf
  rw [← hHe]
  refine lv_aload_n hx hb dX1_step_0 rfl (lv_at hl 0 rfl) ?_
  refine va_get (D := D) (ci := 1) (v := .int u.2.2.1) (C := RX1) (T := TX1) (N := 7) hx hb hts hin0 hown hK hP 0 rfl rfl 3 (by decide) (hw w_f_X1_23) (fun _ h9 => h9) rfl dX1_step_1 ?_
  refine lv_if_ne (tgt := 14) hx hb dX1_step_4 (by decide) (fun g1 => ?_) (fun g1 => ?_)
  · have ht := (if_neg g1).symm.trans ht
    refine lv_iconst (v := (-1 : Int32)) hx hb dX1_step_14 (by decide) ?_
    exact K15 _ _ _ u (-1 : Int32) hP hD hS (lv_sub hl [] rfl) ht
  · have ht := (if_pos g1).symm.trans ht
    refine lv_aload_n hx hb dX1_step_7 rfl (lv_at hl 0 rfl) ?_
    obtain ⟨r2, h3, ht⟩ := ob_some ht
    refine kG_i (cl := clA o aw ar ak kI) (u := u) (va_runV (As := []) (rest := []) ⟨hx, hb, hml, hown, hts⟩ (ctA_doInstruction l D kI tb o aw ar ak H.size u  r2 h3) (cwV 0 hts (gV w_m_X1_49 w_im_yX1_doInstruction w_sel_yX1_doInstruction w_init_MicroMill w_co_yX1_doInstruction) rfl rfl rfl (by decide +kernel) ⟨Nat.le_trans (Nat.le_of_ble_eq_true rfl) hRf, Nat.le_trans (Nat.le_of_ble_eq_true rfl) hRl⟩) (preA hK hP hD hS hA hZ _) rfl rfl hl.1 rfl (lv_room (Nat.le_of_ble_eq_true rfl)) dX1_step_8 ⟨Nat.zero_le _, Nat.zero_le _⟩) hD hS hA (fun H locs hP hD hS => ?_)
    refine lv_goto (tgt := 15) hx hb dX1_step_11 (by decide) ?_
    exact K15 _ _ _ r2.2 r2.1 hP hD hS (lv_sub hl [] rfl) ht
def fnA_stopped (u : sA) : Option (Int32 × sA) := some (u.2.2.1, u)
set_option maxRecDepth 100000 in
set_option maxHeartbeats 4000000 in
theorem ctA_stopped (l : Launch) (D : va_G) (kI : ClassId) (tb : Nat) (o aw ar ak : Nat) (sz : Nat) (u : sA) (tg : Int32 × sA) (ht : fnA_stopped u  = some tg) : Met l yX1_stopped (Cond.code yX1_stopped cX1_stopped 1 (some .int) :: wAll) ({ frames := 0, cells := 0, slots := 0, locals := 0 } : Room) (va_Pc [.ref o] (prA D kI tb o aw ar ak sz u)) (va_Qi (fun (x : Int32) (v : sA) => x = tg.1 ∧ v = tg.2) (poG D kI (clA o aw ar ak kI) (va_A (clA o aw ar ak kI u) sz)) (va_A (clA o aw ar ak kI u) sz)) 0 0 (va_A (clA o aw ar ak kI u) sz) := by
  refine mOfW (cc := cX1_stopped) (maxL := 1) (ret := (some .int)) (by decide) rfl ?_
  intro p e s m args below meth c s₁ Q R hQ hR B hml hv
  obtain ⟨rfl, hsz, hP, hK, hD0, hZ⟩ := hv
  have hx := B.exec
  have hb := B.bytes
  have hr := B.returns
  have hts := atoms_spec (ws := Cond.code yX1_stopped cX1_stopped 1 (some .int) :: wAll) B.pre
  have hw : ∀ {w : Cond}, w ∈ wAll → w.before _ s = true := fun {w} h => hts w (List.mem_cons_of_mem _ h)
  have hown : s.vm.findClass RX1 = some m.cls := findClass_of_methodNamed B.named
  have hlocks := B.notSynchronized
  have hRf : 0 ≤ R.frames := by rw [hR]; exact Nat.le_refl _
  have hRl : 0 ≤ R.locals := by rw [hR]; exact Nat.le_refl _
  subst hsz
  have hD := hD0.self (sz := s.heap.size)
  generalize hAe : va_A (clA o aw ar ak kI u) s.heap.size = A at hD hZ hQ
  have hA : ∀ q : Nat, s.heap.size ≤ q → A q := fun q h => by rw [← hAe]; exact Or.inr h
  have hl := lv_entry ([.ref o]) (n := 1) (Nat.le_of_ble_eq_true rfl)
  rw [lg_entry_eq]
  generalize (lg_sl ([.ref o]) ++ List.replicate (1 - (lg_sl ([.ref o])).length) Slot.unset).toArray = ls at hl ⊢
  have hl : lv_has ls 1 [(0, .ref o)] := hl
  have hin0 : ∀ w ∈ u_ws RX1 TX1 7, w ∈ (Cond.code yX1_stopped cX1_stopped 1 (some .int) :: wAll) := fun w h => List.mem_cons_of_mem _ (w_flX1 w h)
  unfold fnA_stopped at ht
  obtain ⟨H, hHe⟩ : ∃ H : Heap, H = s.heap := ⟨_, rfl⟩
  have hP : va_P D vwCl (clA o aw ar ak kI u) H := by rw [hHe]; exact hP
  have hS : va_S A s.heap H [] := by rw [hHe]; exact va_S.rf
  rw [← hHe]
  refine lv_aload_n hx hb dX1_stopped_0 rfl (lv_at hl 0 rfl) ?_
  refine va_get (D := D) (ci := 1) (v := .int u.2.2.1) (C := RX1) (T := TX1) (N := 7) hx hb hts hin0 hown hK hP 0 rfl rfl 3 (by decide) (hw w_f_X1_23) (fun _ h9 => h9) rfl dX1_stopped_1 ?_
  have e9 := Option.some.inj ht
  subst hQ
  exact W.iret (v := u.2.2.1) hx hb hr (fun t ht9 hW => ⟨⟨u.2.2.1, u, rfl, ⟨pr1 e9, pr2 e9⟩, ⟨by rw [ht9]; exact hP, va_K.moved hW.alike hK, hD⟩⟩, hS.F ht9⟩) hS.2.2 dX1_stopped_4
