/-! the constructors -/
def prN (D : va_G) (kI : ClassId) (o ci : Nat) (fs : List Value) (sz : Nat) (U : State) : Prop := U.heap.size = sz ∧ va_P D vwCl [(o, .inr (ci, fs))] U.heap ∧ va_K D vwCl (tyI kI) U ∧ va_D (fun _ => True) [(o, .inr (ci, fs))] ∧ ∀ w ∈ nwA, va_Nw w U
abbrev vD0 : List Value := [.null, .null, .int 0, .int 0, .long 0, .int 0, .int 0]
abbrev vA0 : List Value := [.null, .null, .null, .int 0, .long 0, .int 0, .int 0]
def inD : sD := (fun _ => 0, fun _ => 0, 0, 0, 0, 0, 0)
def inA : sA := (fun _ => 0, fun _ => 0, 0, 0, 0, -1, (0, 0, 0, 0, 65535, 32768))
theorem preGI {S : Type} {D : va_G} {kI : ClassId} {cl : S → va_W} {o : Nat} {u : S} {s : State} {H : Heap} (hK : va_K D vwCl (tyI kI) s) (hP : va_P D vwCl (cl u) H) (hD : va_D (fun _ => True) (cl u)) (As : List Value) : PreS s H (va_Pc (.ref o :: As) (prG D kI cl H.size u)) (.ref o :: As) :=
  ⟨fun a U g mk q => ⟨q.1, q.2.1, q.2.2.1, va_K.moved (u := U) (U := U.calling g mk a) (Vm.Alike.refl U.vm) q.2.2.2.1, q.2.2.2.2⟩,
   fun U hU hW => ⟨rfl, by rw [hU], by rw [hU]; exact hP, va_K.moved hW.alike hK, hD⟩⟩
theorem preNI {D : va_G} {kI : ClassId} {o ci : Nat} {fs : List Value} {s : State} {H : Heap} (hK : va_K D vwCl (tyI kI) s) (hP : va_P D vwCl [(o, .inr (ci, fs))] H) (hD : va_D (fun _ => True) [(o, .inr (ci, fs))]) (hN : ∀ w ∈ nwA, va_Nw w s) (As : List Value) : PreS s H (va_Pc (.ref o :: As) (prN D kI o ci fs H.size)) (.ref o :: As) :=
  ⟨fun a U g mk q => ⟨q.1, q.2.1, q.2.2.1, va_K.moved (u := U) (U := U.calling g mk a) (Vm.Alike.refl U.vm) q.2.2.2.1, q.2.2.2.2.1, fun w hw => va_Nw.same (nwA_tb w hw) (u := U) (U := U.calling g mk a) rfl (q.2.2.2.2.2 w hw)⟩,
   fun U hU hW => ⟨rfl, by rw [hU], by rw [hU]; exact hP, va_K.moved hW.alike hK, hD, nwA_warm hW hN⟩⟩
theorem kI_eq {D : va_G} {kI k1 : ClassId} {s : State} (h : va_K D vwCl (tyI kI ++ [(k1, .int)]) s) : k1 = kI :=
  Option.some.inj ((show s.vm.findClass ("[" ++ FieldType.int.toString) = some k1 from (h.2 1 _ rfl).2).symm.trans (show s.vm.findClass ("[" ++ FieldType.int.toString) = some kI from (h.2 0 _ rfl).2))
set_option maxRecDepth 100000 in
set_option maxHeartbeats 4000000 in
theorem ctD_init (l : Launch) (D : va_G) (kI : ClassId) (o sz : Nat) : Met l yX2_init (Cond.code yX2_init cX2_init 1 none :: wAll) ({ frames := 1, cells := 2, slots := 2056, locals := 12 } : Room) (va_Pc [.ref o] (prN D kI o 2 vD0 sz)) (va_Qv (fun (_ : Nat × Nat) => True) (fun q t => poG D kI (clD o q.1 q.2 kI) (va_A [(o, .inr (2, vD0))] sz) inD t) (va_A [(o, .inr (2, vD0))] sz)) 2 2056 (va_A [(o, .inr (2, vD0))] sz) := by
  refine mOfW (cc := cX2_init) (maxL := 1) (ret := none) (by decide) rfl ?_
  intro p e s m args below meth c s₁ Q R hQ hR B hml hv
  obtain ⟨rfl, hsz, hP, hK, hD0, hN⟩ := hv
  have hx := B.exec
  have hb := B.bytes
  have hr := B.returns
  have hts := atoms_spec (ws := Cond.code yX2_init cX2_init 1 none :: wAll) B.pre
  have hw : ∀ {w : Cond}, w ∈ wAll → w.before _ s = true := fun {w} h => hts w (List.mem_cons_of_mem _ h)
  have hown : s.vm.findClass RX2 = some m.cls := findClass_of_methodNamed B.named
  have hlocks := B.notSynchronized
  have hin : meth.name = "<init>" := (name_of_methodNamed B.named B.method).1
  have hRf : 1 ≤ R.frames := by rw [hR]; exact Nat.le_refl _
  have hRl : 12 ≤ R.locals := by rw [hR]; exact Nat.le_refl _
  have hRc : 2 ≤ R.cells := by rw [hR]; exact Nat.le_refl _
  have hRs : 2056 ≤ R.slots := by rw [hR]; exact Nat.le_refl _
  subst hsz
  have hD := hD0.self (sz := s.heap.size)
  generalize hAe : va_A [(o, .inr (2, vD0))] s.heap.size = A at hD hQ
  have hA : ∀ q : Nat, s.heap.size ≤ q → A q := fun q h => by rw [← hAe]; exact Or.inr h
  have hl := lv_entry ([.ref o]) (n := 1) (Nat.le_of_ble_eq_true rfl)
  rw [lg_entry_eq]
  generalize (lg_sl ([.ref o]) ++ List.replicate (1 - (lg_sl ([.ref o])).length) Slot.unset).toArray = ls at hl ⊢
  have hl : lv_has ls 1 [(0, .ref o)] := hl
  have hin0 : ∀ w ∈ u_ws RX2 TX2 7, w ∈ (Cond.code yX2_init cX2_init 1 none :: wAll) := fun w h => List.mem_cons_of_mem _ (w_flX2 w h)
  have hS : va_S A s.heap s.heap [] := va_S.rf
  refine lv_aload_n hx hb dX2_init_0 rfl (lv_at hl 0 rfl) ?_
  refine W.objInit hx hb hown (hw w_m_X2_1) (hw w_im_objectInit) (hw w_co_objectInit) rfl (by rw [hml]; exact hl.1) rfl dX2_init_1 (Nat.le_trans (Nat.le_of_ble_eq_true rfl) hRf) (Nat.le_trans (Nat.le_of_ble_eq_true rfl) hRl) ?_
  refine W.eq (g2 := F0 m 4 ls []) rfl ?_
  refine lv_aload_n hx hb dX2_init_4 rfl (lv_at hl 0 rfl) ?_
  refine lv_sipush (v := (2048 : Int32)) hx hb dX2_init_5 (by decide) ?_
  refine va_newa (atype := .int) (a0 := (2048, .inl (fun _ => (0 : Int32)))) (N' := 2048) (ty := .int) hx hb (hw w_arr_I) rfl hK hP hD hS hA (fun _ => rfl) (by decide) (by decide) (by decide) (Nat.le_trans (Nat.le_of_ble_eq_true rfl) hRc) (Nat.le_trans (Nat.le_of_ble_eq_true rfl) hRs) dX2_init_8 (fun q1 k1 H hK1 hP hD hS => ?_)
  rw [kI_eq hK1] at hP hD
  have hP : va_P D vwCl [(o, .inr (2, vD0)), (q1, .inl (kI, 2048, .inl (fun _ => (0 : Int32))))] H := hP
  have hD : va_D A [(o, .inr (2, vD0)), (q1, .inl (kI, 2048, .inl (fun _ => (0 : Int32))))] := hD
  refine va_putF (D := D) (ci := 2) (v := .ref q1) (ty := .array .int) (C := RX2) (T := TX2) (N := 7) hx hb hts hin0 tyX2 tyX2_ok nmX2 hown hK hP hD hS 0 rfl rfl 0 (by decide) (hw w_f_X2_7) (fun _ h9 => h9) rfl hin rfl (by decide +kernel) rfl rfl (Nat.le_of_ble_eq_true rfl) dX2_init_10 (fun H locs hP hD hS => ?_)
  have hP : va_P D vwCl [(o, .inr (2, [.ref q1, .null, .int 0, .int 0, .long 0, .int 0, .int 0])), (q1, .inl (kI, 2048, .inl (fun _ => (0 : Int32))))] H := hP
  have hD : va_D A [(o, .inr (2, [.ref q1, .null, .int 0, .int 0, .long 0, .int 0, .int 0])), (q1, .inl (kI, 2048, .inl (fun _ => (0 : Int32))))] := hD
  refine lv_aload_n hx hb dX2_init_13 rfl (lv_at hl 0 rfl) ?_
  refine lv_bipush (v := (8 : Int32)) hx hb dX2_init_14 (by decide) ?_
  refine va_newa (atype := .int) (a0 := (8, .inl (fun _ => (0 : Int32)))) (N' := 8) (ty := .int) hx hb (hw w_arr_I) rfl hK hP hD hS hA (fun _ => rfl) (by decide) (by decide) (by decide) (Nat.le_trans (Nat.le_of_ble_eq_true rfl) hRc) (Nat.le_trans (Nat.le_of_ble_eq_true rfl) hRs) dX2_init_16 (fun q2 k2 H hK1 hP hD hS => ?_)
  rw [kI_eq hK1] at hP hD
  have hP : va_P D vwCl [(o, .inr (2, [.ref q1, .null, .int 0, .int 0, .long 0, .int 0, .int 0])), (q1, .inl (kI, 2048, .inl (fun _ => (0 : Int32)))), (q2, .inl (kI, 8, .inl (fun _ => (0 : Int32))))] H := hP
  have hD : va_D A [(o, .inr (2, [.ref q1, .null, .int 0, .int 0, .long 0, .int 0, .int 0])), (q1, .inl (kI, 2048, .inl (fun _ => (0 : Int32)))), (q2, .inl (kI, 8, .inl (fun _ => (0 : Int32))))] := hD
  refine va_putF (D := D) (ci := 2) (v := .ref q2) (ty := .array .int) (C := RX2) (T := TX2) (N := 7) hx hb hts hin0 tyX2 tyX2_ok nmX2 hown hK hP hD hS 0 rfl rfl 1 (by decide) (hw w_f_X2_13) (fun _ h9 => h9) rfl hin rfl (by decide +kernel) rfl rfl (Nat.le_of_ble_eq_true rfl) dX2_init_18 (fun H locs hP hD hS => ?_)
  have hP : va_P D vwCl (clD o q1 q2 kI inD) H := hP
  have hD : va_D A (clD o q1 q2 kI inD) := hD
  subst hQ
  exact W.vret hx hb hr (fun t ht9 hW => ⟨⟨(q1, q2), rfl, trivial, ⟨by rw [ht9]; exact hP, va_K.moved hW.alike hK, hD⟩⟩, hS.F ht9⟩) hS.2.2 dX2_init_21
set_option maxRecDepth 100000 in
set_option maxHeartbeats 4000000 in
theorem ctA_init (l : Launch) (D : va_G) (kI : ClassId) (o sz : Nat) : Met l yX1_init (Cond.code yX1_init cX1_init 1 none :: wAll) ({ frames := 2, cells := 3, slots := 2062, locals := 32 } : Room) (va_Pc [.ref o] (prN D kI o 1 vA0 sz)) (va_Qv (fun (_ : Nat × Nat × Nat) => True) (fun q t => poG D kI (clA o q.1 q.2.1 q.2.2 kI) (va_A [(o, .inr (1, vA0))] sz) inA t) (va_A [(o, .inr (1, vA0))] sz)) 3 2062 (va_A [(o, .inr (1, vA0))] sz) := by
  refine mOfW (cc := cX1_init) (maxL := 1) (ret := none) (by decide) rfl ?_
  intro p e s m args below meth c s₁ Q R hQ hR B hml hv
  obtain ⟨rfl, hsz, hP, hK, hD0, hN⟩ := hv
  have hx := B.exec
  have hb := B.bytes
  have hr := B.returns
  have hts := atoms_spec (ws := Cond.code yX1_init cX1_init 1 none :: wAll) B.pre
  have hw : ∀ {w : Cond}, w ∈ wAll → w.before _ s = true := fun {w} h => hts w (List.mem_cons_of_mem _ h)
  have hown : s.vm.findClass RX1 = some m.cls := findClass_of_methodNamed B.named
  have hlocks := B.notSynchronized
  have hin : meth.name = "<init>" := (name_of_methodNamed B.named B.method).1
  have hRf : 2 ≤ R.frames := by rw [hR]; exact Nat.le_refl _
  have hRl : 32 ≤ R.locals := by rw [hR]; exact Nat.le_refl _
  have hRc : 3 ≤ R.cells := by rw [hR]; exact Nat.le_refl _
  have hRs : 2062 ≤ R.slots := by rw [hR]; exact Nat.le_refl _
  subst hsz
  have hD := hD0.self (sz := s.heap.size)
  generalize hAe : va_A [(o, .inr (1, vA0))] s.heap.size = A at hD hQ
  have hA : ∀ q : Nat, s.heap.size ≤ q → A q := fun q h => by rw [← hAe]; exact Or.inr h
  have hl := lv_entry ([.ref o]) (n := 1) (Nat.le_of_ble_eq_true rfl)
  rw [lg_entry_eq]
  generalize (lg_sl ([.ref o]) ++ List.replicate (1 - (lg_sl ([.ref o])).length) Slot.unset).toArray = ls at hl ⊢
  have hl : lv_has ls 1 [(0, .ref o)] := hl
  have hin0 : ∀ w ∈ u_ws RX1 TX1 7, w ∈ (Cond.code yX1_init cX1_init 1 none :: wAll) := fun w h => List.mem_cons_of_mem _ (w_flX1 w h)
  have hinW : ∀ w ∈ u_ws RX0 TX0 6, w ∈ (Cond.code yX1_init cX1_init 1 none :: wAll) := fun w h => List.mem_cons_of_mem _ (w_flX0 w h)
  have hn18 : va_Nw (.methodLinkNest RX1 18 yX0_init "MicroMill") s := hN _ (by decide +kernel)
  have hS : va_S A s.heap s.heap [] := va_S.rf
  refine lv_aload_n hx hb dX1_init_0 rfl (lv_at hl 0 rfl) ?_
  refine W.objInit hx hb hown (hw w_m_X1_1) (hw w_im_objectInit) (hw w_co_objectInit) rfl (by rw [hml]; exact hl.1) rfl dX1_init_1 (Nat.le_trans (Nat.le_of_ble_eq_true rfl) hRf) (Nat.le_trans (Nat.le_of_ble_eq_true rfl) hRl) ?_
  refine W.eq (g2 := F0 m 4 ls []) rfl ?_
  refine lv_aload_n hx hb dX1_init_4 rfl (lv_at hl 0 rfl) ?_
  refine lv_sipush (v := (2048 : Int32)) hx hb dX1_init_5 (by decide) ?_
  refine va_newa (atype := .int) (a0 := (2048, .inl (fun _ => (0 : Int32)))) (N' := 2048) (ty := .int) hx hb (hw w_arr_I) rfl hK hP hD hS hA (fun _ => rfl) (by decide) (by decide) (by decide) (Nat.le_trans (Nat.le_of_ble_eq_true rfl) hRc) (Nat.le_trans (Nat.le_of_ble_eq_true rfl) hRs) dX1_init_8 (fun q1 k1 H hK1 hP hD hS => ?_)
  rw [kI_eq hK1] at hP hD
  have hP : va_P D vwCl [(o, .inr (1, vA0)), (q1, .inl (kI, 2048, .inl (fun _ => (0 : Int32))))] H := hP
  have hD : va_D A [(o, .inr (1, vA0)), (q1, .inl (kI, 2048, .inl (fun _ => (0 : Int32))))] := hD
  refine va_putF (D := D) (ci := 1) (v := .ref q1) (ty := .array .int) (C := RX1) (T := TX1) (N := 7) hx hb hts hin0 tyX1 tyX1_ok nmX1 hown hK hP hD hS 0 rfl rfl 0 (by decide) (hw w_f_X1_9) (fun _ h9 => h9) rfl hin rfl (by decide +kernel) rfl rfl (Nat.le_of_ble_eq_true rfl) dX1_init_10 (fun H locs hP hD hS => ?_)
  have hP : va_P D vwCl [(o, .inr (1, [.ref q1, .null, .null, .int 0, .long 0, .int 0, .int 0])), (q1, .inl (kI, 2048, .inl (fun _ => (0 : Int32))))] H := hP
  have hD : va_D A [(o, .inr (1, [.ref q1, .null, .null, .int 0, .long 0, .int 0, .int 0])), (q1, .inl (kI, 2048, .inl (fun _ => (0 : Int32))))] := hD
  refine lv_aload_n hx hb dX1_init_13 rfl (lv_at hl 0 rfl) ?_
  refine lv_bipush (v := (8 : Int32)) hx hb dX1_init_14 (by decide) ?_
  refine va_newa (atype := .int) (a0 := (8, .inl (fun _ => (0 : Int32)))) (N' := 8) (ty := .int) hx hb (hw w_arr_I) rfl hK hP hD hS hA (fun _ => rfl) (by decide) (by decide) (by decide) (Nat.le_trans (Nat.le_of_ble_eq_true rfl) hRc) (Nat.le_trans (Nat.le_of_ble_eq_true rfl) hRs) dX1_init_16 (fun q2 k2 H hK1 hP hD hS => ?_)
  rw [kI_eq hK1] at hP hD
  have hP : va_P D vwCl [(o, .inr (1, [.ref q1, .null, .null, .int 0, .long 0, .int 0, .int 0])), (q1, .inl (kI, 2048, .inl (fun _ => (0 : Int32)))), (q2, .inl (kI, 8, .inl (fun _ => (0 : Int32))))] H := hP
  have hD : va_D A [(o, .inr (1, [.ref q1, .null, .null, .int 0, .long 0, .int 0, .int 0])), (q1, .inl (kI, 2048, .inl (fun _ => (0 : Int32)))), (q2, .inl (kI, 8, .inl (fun _ => (0 : Int32))))] := hD
  refine va_putF (D := D) (ci := 1) (v := .ref q2) (ty := .array .int) (C := RX1) (T := TX1) (N := 7) hx hb hts hin0 tyX1 tyX1_ok nmX1 hown hK hP hD hS 0 rfl rfl 1 (by decide) (hw w_f_X1_13) (fun _ h9 => h9) rfl hin rfl (by decide +kernel) rfl rfl (Nat.le_of_ble_eq_true rfl) dX1_init_18 (fun H locs hP hD hS => ?_)
  have hP : va_P D vwCl [(o, .inr (1, [.ref q1, .ref q2, .null, .int 0, .long 0, .int 0, .int 0])), (q1, .inl (kI, 2048, .inl (fun _ => (0 : Int32)))), (q2, .inl (kI, 8, .inl (fun _ => (0 : Int32))))] H := hP
  have hD : va_D A [(o, .inr (1, [.ref q1, .ref q2, .null, .int 0, .long 0, .int 0, .int 0])), (q1, .inl (kI, 2048, .inl (fun _ => (0 : Int32)))), (q2, .inl (kI, 8, .inl (fun _ => (0 : Int32))))] := hD
  refine lv_aload_n hx hb dX1_init_21 rfl (lv_at hl 0 rfl) ?_
  refine va_new (ci := 0) (fs := [.int 0, .int 0, .int 0, .int 0, .int 0, .int 0]) (C := RX0) (T := TX0) (N := 6) hx hb hts hinW tyX0 tyX0_ok hown (hw w_cl_X1_16) (hw w_inst_X0) (hw w_init_MicroMill_Work) hK hP hD hS hA rfl (fun j hj => by rcases (show j = 0 ∨ j = 1 ∨ j = 2 ∨ j = 3 ∨ j = 4 ∨ j = 5 by omega) with rfl | rfl | rfl | rfl | rfl | rfl <;> rfl) (Nat.le_trans (Nat.le_of_ble_eq_true rfl) hRc) (Nat.le_trans (Nat.le_of_ble_eq_true rfl) hRs) dX1_init_22 (fun q3 H hP hD hS => ?_)
  have hP : va_P D vwCl [(o, .inr (1, [.ref q1, .ref q2, .null, .int 0, .long 0, .int 0, .int 0])), (q1, .inl (kI, 2048, .inl (fun _ => (0 : Int32)))), (q2, .inl (kI, 8, .inl (fun _ => (0 : Int32)))), (q3, .inr (0, [.int 0, .int 0, .int 0, .int 0, .int 0, .int 0]))] H := hP
  have hD : va_D A [(o, .inr (1, [.ref q1, .ref q2, .null, .int 0, .long 0, .int 0, .int 0])), (q1, .inl (kI, 2048, .inl (fun _ => (0 : Int32)))), (q2, .inl (kI, 8, .inl (fun _ => (0 : Int32)))), (q3, .inr (0, [.int 0, .int 0, .int 0, .int 0, .int 0, .int 0]))] := hD
  refine lv_dup hx hb dX1_init_25 rfl ?_
  have hPc := hP.sub (ws' := clW q3 (0, 0, 0, 0, 0, 0)) [3] rfl
  have hDc := hD.sub (ws' := clW q3 (0, 0, 0, 0, 0, 0)) [3] (by decide) rfl
  have hFc := va_free (wc := clW q3 (0, 0, 0, 0, 0, 0)) hD hS hA [3] rfl
  refine va_callv (va_runIN (As := []) (rest := [.ref q3, .ref o]) ⟨hx, hb, hml, hown, hts⟩ (ctW_init l D kI q3 H.size (0, 0, 0, 0, 0, 0) ((), (0, 0, 0, 0, 65535, 32768)) rfl) ⟨va_cnB 0 hts (gC w_co_yX0_init) rfl rfl rfl hn18 (hw w_init_MicroMill_Work) (by decide +kernel) ⟨Nat.le_trans (Nat.le_of_ble_eq_true rfl) hRf, Nat.le_trans (Nat.le_of_ble_eq_true rfl) hRl⟩, rfl, hw w_im_yX0_init⟩ (preGI (cl := clW q3) (u := (0, 0, 0, 0, 0, 0)) hK hPc (hDc.weaken (fun _ _ _ _ => trivial)) []) rfl rfl hl.1 rfl (lv_room (Nat.le_of_ble_eq_true rfl)) dX1_init_26 ⟨Nat.le_trans (Nat.le_of_ble_eq_true rfl) hRc, Nat.le_trans (Nat.le_of_ble_eq_true rfl) hRs⟩) hS (fun q _ h => hFc q h) hFc (fun v t H1 locs ht hvm hw1 hB hz hk hS => ?_)
  subst hw1
  obtain ⟨hP1, hK1, hD1⟩ := hB
  subst ht
  obtain ⟨hP, hD⟩ := va_join (wr := [(o, .inr (1, [.ref q1, .ref q2, .null, .int 0, .long 0, .int 0, .int 0])), (q1, .inl (kI, 2048, .inl (fun _ => (0 : Int32)))), (q2, .inl (kI, 8, .inl (fun _ => (0 : Int32))))]) (w1 := clW q3 (0, 0, 0, 0, 65535, 32768)) hP hD [3] [0, 1, 2] rfl rfl (by decide) (by decide) hk hFc hP1 hD1
  generalize t.heap = H at hP hS ⊢
  have hP : va_P D vwCl [(o, .inr (1, [.ref q1, .ref q2, .null, .int 0, .long 0, .int 0, .int 0])), (q1, .inl (kI, 2048, .inl (fun _ => (0 : Int32)))), (q2, .inl (kI, 8, .inl (fun _ => (0 : Int32)))), (q3, .inr (0, [.int 0, .int 0, .int 0, .int 0, .int 65535, .int 32768]))] H := hP
  have hD : va_D A [(o, .inr (1, [.ref q1, .ref q2, .null, .int 0, .long 0, .int 0, .int 0])), (q1, .inl (kI, 2048, .inl (fun _ => (0 : Int32)))), (q2, .inl (kI, 8, .inl (fun _ => (0 : Int32)))), (q3, .inr (0, [.int 0, .int 0, .int 0, .int 0, .int 65535, .int 32768]))] := hD
  refine va_putF (D := D) (ci := 1) (v := .ref q3) (ty := .object "MicroMill$Work") (C := RX1) (T := TX1) (N := 7) hx hb hts hin0 tyX1 tyX1_ok nmX1 hown hK hP hD hS 0 rfl rfl 2 (by decide) (hw w_f_X1_19) (fun _ h9 => h9) rfl hin rfl (by decide +kernel) rfl rfl (Nat.le_of_ble_eq_true rfl) dX1_init_29 (fun H locs hP hD hS => ?_)
  have hP : va_P D vwCl (clA o q1 q2 q3 kI (fun _ => 0, fun _ => 0, 0, 0, 0, 0, (0, 0, 0, 0, 65535, 32768))) H := hP
  have hD : va_D A (clA o q1 q2 q3 kI (fun _ => 0, fun _ => 0, 0, 0, 0, 0, (0, 0, 0, 0, 65535, 32768))) := hD
  refine lv_aload_n hx hb dX1_init_32 rfl (lv_at hl 0 rfl) ?_
  refine lv_iconst (v := (0 : Int32)) hx hb dX1_init_33 (by decide) ?_
  refine va_put (D := D) (ci := 1) (v := .int (0 : Int32)) (ty := .int) (C := RX1) (T := TX1) (N := 7) hx hb hts hin0 tyX1 tyX1_ok nmX1 hown hK hP hD hS 0 rfl rfl 3 (by decide) (hw w_f_X1_23) (fun _ h9 => h9) rfl (by decide +kernel) rfl rfl (Nat.le_of_ble_eq_true rfl) dX1_init_34 (fun H locs hP hD hS => ?_)
  refine lv_aload_n hx hb dX1_init_37 rfl (lv_at hl 0 rfl) ?_
  refine lv_lconst (v := (0 : Int64)) hx hb dX1_init_38 (by decide) ?_
  refine va_put (D := D) (ci := 1) (v := .long (0 : Int64)) (ty := .long) (C := RX1) (T := TX1) (N := 7) hx hb hts hin0 tyX1 tyX1_ok nmX1 hown hK hP hD hS 0 rfl rfl 4 (by decide) (hw w_f_X1_27) (fun _ h9 => h9) rfl (by decide +kernel) rfl rfl (Nat.le_of_ble_eq_true rfl) dX1_init_39 (fun H locs hP hD hS => ?_)
  refine lv_aload_n hx hb dX1_init_42 rfl (lv_at hl 0 rfl) ?_
  refine lv_iconst (v := (0 : Int32)) hx hb dX1_init_43 (by decide) ?_
  refine va_put (D := D) (ci := 1) (v := .int (0 : Int32)) (ty := .int) (C := RX1) (T := TX1) (N := 7) hx hb hts hin0 tyX1 tyX1_ok nmX1 hown hK hP hD hS 0 rfl rfl 5 (by decide) (hw w_f_X1_31) (fun _ h9 => h9) rfl (by decide +kernel) rfl rfl (Nat.le_of_ble_eq_true rfl) dX1_init_44 (fun H locs hP hD hS => ?_)
  refine lv_aload_n hx hb dX1_init_47 rfl (lv_at hl 0 rfl) ?_
  refine lv_iconst (v := (-1 : Int32)) hx hb dX1_init_48 (by decide) ?_
  refine va_put (D := D) (ci := 1) (v := .int (-1 : Int32)) (ty := .int) (C := RX1) (T := TX1) (N := 7) hx hb hts hin0 tyX1 tyX1_ok nmX1 hown hK hP hD hS 0 rfl rfl 6 (by decide) (hw w_f_X1_34) (fun _ h9 => h9) rfl (by decide +kernel) rfl rfl (Nat.le_of_ble_eq_true rfl) dX1_init_49 (fun H locs hP hD hS => ?_)
  have hP : va_P D vwCl (clA o q1 q2 q3 kI inA) H := hP
  have hD : va_D A (clA o q1 q2 q3 kI inA) := hD
  subst hQ
  exact W.vret hx hb hr (fun t ht9 hW => ⟨⟨(q1, q2, q3), rfl, trivial, ⟨by rw [ht9]; exact hP, va_K.moved hW.alike hK, hD⟩⟩, hS.F ht9⟩) hS.2.2 dX1_init_52
