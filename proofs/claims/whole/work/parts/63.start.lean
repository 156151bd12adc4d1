/-! the law's beginning -/
theorem nwA_in : ∀ w ∈ nwA, w ∈ lw_tbl := by decide +kernel
set_option maxRecDepth 100000 in
set_option maxHeartbeats 4000000 in
theorem whole_start {p : Program} {e : Env} {s : State} {m : MethodId} {below : List Frame} {meth : Method} {c : Code} (l : Launch) {b L : Nat} {xs : Nat → Int32} (hL : L ≤ 1536) (C0 : lw_At p s m meth c b L xs) : W p l e room_1 s m #[Value.ref b] below meth c s.heap [] 0 0 (lw_Z below #[Value.ref b] s) (entryFrame m ([Value.ref b] : List Value).toArray 4) := by
  obtain ⟨hx, hb, hr, hml, hown, hts, hX, hbl, hlocks, hgv⟩ := C0
  have hown : s.vm.findClass RL = some m.cls := hown
  have hw : ∀ {w : Cond}, w ∈ wAll → w.before #[Value.ref b] s = true := fun {w} h => hts w (wAll_tb w h)
  have hs := flat_of_before _ hgv
  obtain ⟨c0, i0, k0⟩ := u_known (ws := lw_tbl) (C := RX0) (T := TX0) (N := 6) hts (fun w h => wAll_tb w (w_flX0 w h)) (hw w_inst_X0)
  obtain ⟨c1, i1, k1⟩ := u_known (ws := lw_tbl) (C := RX1) (T := TX1) (N := 7) hts (fun w h => wAll_tb w (w_flX1 w h)) (hw w_inst_X1)
  obtain ⟨c2, i2, k2⟩ := u_known (ws := lw_tbl) (C := RX2) (T := TX2) (N := 7) hts (fun w h => wAll_tb w (w_flX2 w h)) (hw w_inst_X2)
  obtain ⟨kI, kA, comp, hf, hkA, hkind⟩ := Cond.arrayClass_spec (hw w_arr_I)
  obtain ⟨D, hK⟩ : ∃ D : va_G, va_K D vwCl (tyI kI) s := by
    refine ⟨(fun i => if i = 0 then c0 else if i = 1 then c1 else c2, fun i => if i = 0 then i0 else if i = 1 then i1 else i2), fun c q hq => ?_, fun k q hq => ?_⟩
    · rcases c with _ | _ | _ | c
      · cases hq; exact k0
      · cases hq; exact k1
      · cases hq; exact k2
      · simp at hq
    · rcases k with _ | k
      · cases hq
        exact ⟨fun n z => ⟨fun k h => (by cases h), kA, hkA, comp, hkind⟩, hf⟩
      · simp at hq
  obtain ⟨A, hAe⟩ : ∃ A : Nat → Prop, A = fun q => s.heap.size ≤ q := ⟨_, rfl⟩
  have hA : ∀ q, s.heap.size ≤ q → A q := fun q h => by rw [hAe]; exact h
  have hA0 : ∀ a : Nat, a < s.heap.size → ¬ A a := fun a h q => by rw [hAe] at q; exact absurd q (Nat.not_le.mpr h)
  obtain ⟨tb, t1, t2⟩ := va_Tof (args := #[Value.ref b]) (s := s) (tm := .static "MicroMill" "MODE_CYCLES" "[I") (ty := .int) (N := 8) (f := fun j => .int (mcT j)) (A := A) (by decide) (hs (.arrayOf (.static "MicroMill" "MODE_CYCLES" "[I") .int) (by decide +kernel)) (va_eqt (hs (.eq (.length (.static "MicroMill" "MODE_CYCLES" "[I")) (.int 8)) (by decide +kernel))) (fun j hj => by
    rcases (show j = 0 ∨ j = 1 ∨ j = 2 ∨ j = 3 ∨ j = 4 ∨ j = 5 ∨ j = 6 ∨ j = 7 by omega) with rfl | rfl | rfl | rfl | rfl | rfl | rfl | rfl
    · exact va_eqt (hs (.eq (.elem (.static "MicroMill" "MODE_CYCLES" "[I") (.int 0)) (.int 1)) (by decide +kernel))
    · exact va_eqt (hs (.eq (.elem (.static "MicroMill" "MODE_CYCLES" "[I") (.int 1)) (.int 2)) (by decide +kernel))
    · exact va_eqt (hs (.eq (.elem (.static "MicroMill" "MODE_CYCLES" "[I") (.int 2)) (.int 2)) (by decide +kernel))
    · exact va_eqt (hs (.eq (.elem (.static "MicroMill" "MODE_CYCLES" "[I") (.int 3)) (.int 3)) (by decide +kernel))
    · exact va_eqt (hs (.eq (.elem (.static "MicroMill" "MODE_CYCLES" "[I") (.int 4)) (.int 3)) (by decide +kernel))
    · exact va_eqt (hs (.eq (.elem (.static "MicroMill" "MODE_CYCLES" "[I") (.int 5)) (.int 4)) (by decide +kernel))
    · exact va_eqt (hs (.eq (.elem (.static "MicroMill" "MODE_CYCLES" "[I") (.int 6)) (.int 4)) (by decide +kernel))
    · exact va_eqt (hs (.eq (.elem (.static "MicroMill" "MODE_CYCLES" "[I") (.int 7)) (.int 5)) (by decide +kernel))) hA0
  have hN : ∀ w ∈ nwA, va_Nw w s := fun w h => va_Nw.of (nwA_tb w h) (hts w (nwA_in w h))
  have hZ : pzA tb A s := ⟨va_Zref (hts _ (List.mem_append_right _ t_ls_MODE)) (hw w_init_MicroMill) t1 hA0, t2, hN⟩
  have hl := lv_entry ([.ref b]) (n := 4) (Nat.le_of_ble_eq_true rfl)
  rw [lg_entry_eq]
  generalize (lg_sl ([.ref b]) ++ List.replicate (4 - (lg_sl ([.ref b])).length) Slot.unset).toArray = ls at hl ⊢
  have hl : lv_has ls 4 [(0, .ref b)] := hl
  have hS : va_S A s.heap s.heap [] := va_S.rf
  have hP : va_P D vwCl [] s.heap := fun k q h => by simp at h
  have hD : va_D A [] := ⟨fun i j p q h => by simp at h, fun k q h => by simp at h⟩
  refine va_new (ci := 1) (fs := vA0) (C := RX1) (T := TX1) (N := 7) hx hb hts (fun w h => wAll_tb w (w_flX1 w h)) tyX1 tyX1_ok hown (hw w_cl_L_7) (hw w_inst_X1) (hw w_init_MicroMill) hK hP hD hS hA rfl (fun j hj => by rcases (show j = 0 ∨ j = 1 ∨ j = 2 ∨ j = 3 ∨ j = 4 ∨ j = 5 ∨ j = 6 by omega) with rfl | rfl | rfl | rfl | rfl | rfl | rfl <;> rfl) (Nat.le_of_ble_eq_true rfl) (Nat.le_of_ble_eq_true rfl) dL_law_0 (fun o H hP hD hS => ?_)
  have hP : va_P D vwCl [(o, .inr (1, vA0))] H := hP
  have hD : va_D A [(o, .inr (1, vA0))] := hD
  refine lv_dup hx hb dL_law_3 rfl ?_
  have hFc := va_free (wc := [(o, .inr (1, vA0))]) hD hS hA [0] rfl
  refine va_callv (va_runI (As := []) (rest := [.ref o]) ⟨hx, hb, hml, hown, hts⟩ (ctA_init l D kI o H.size) (cwI 0 hts (gCL w_co_yX1_init) rfl rfl rfl (hw w_init_MicroMill) (hw w_m_L_9) (hw w_im_yX1_init) rfl (by decide +kernel) ⟨Nat.le_of_ble_eq_true rfl, Nat.le_of_ble_eq_true rfl⟩) (preNI hK hP (hD.weaken (fun _ _ _ _ => trivial)) hN []) rfl rfl hl.1 rfl (lv_room (Nat.le_of_ble_eq_true rfl)) dL_law_4 ⟨Nat.le_of_ble_eq_true rfl, Nat.le_of_ble_eq_true rfl⟩) hS (fun q _ h => hFc q h) hFc (fun w t H1 locs ht hvm hw1 hB hz hk hS => ?_)
  obtain ⟨aw, ar, ak⟩ := w
  obtain ⟨hP1, hK1, hD1⟩ := hB
  subst ht
  have hP : va_P D vwCl (clA o aw ar ak kI inA) t.heap := hP1
  have hD : va_D A (clA o aw ar ak kI inA) := hD1.weaken (fun _ q _ h => hFc q.1 h)
  generalize t.heap = H at hP hS ⊢
  refine lv_astore_n (lv' := [(1, .ref o), (0, .ref b)]) hx hb dL_law_7 rfl hl (by decide) rfl (fun ls hl => ?_)
  refine va_new (ci := 2) (fs := vD0) (C := RX2) (T := TX2) (N := 7) hx hb hts (fun w h => wAll_tb w (w_flX2 w h)) tyX2 tyX2_ok hown (hw w_cl_L_10) (hw w_inst_X2) (hw w_init_MicroMillModel) hK hP hD hS hA rfl (fun j hj => by rcases (show j = 0 ∨ j = 1 ∨ j = 2 ∨ j = 3 ∨ j = 4 ∨ j = 5 ∨ j = 6 by omega) with rfl | rfl | rfl | rfl | rfl | rfl | rfl <;> rfl) (Nat.le_of_ble_eq_true rfl) (Nat.le_of_ble_eq_true rfl) dL_law_8 (fun o2 H hP hD hS => ?_)
  have hP : va_P D vwCl (clA o aw ar ak kI inA ++ [(o2, .inr (2, vD0))]) H := hP
  have hD : va_D A (clA o aw ar ak kI inA ++ [(o2, .inr (2, vD0))]) := hD
  refine lv_dup hx hb dL_law_11 rfl ?_
  have hPc := hP.sub (ws' := [(o2, .inr (2, vD0))]) [4] rfl
  have hDc := hD.sub (ws' := [(o2, .inr (2, vD0))]) [4] (by decide) rfl
  have hFc := va_free (wc := [(o2, .inr (2, vD0))]) hD hS hA [4] rfl
  refine va_callv (va_runI (As := []) (rest := [.ref o2]) ⟨hx, hb, hml, hown, hts⟩ (ctD_init l D kI o2 H.size) (cwI 0 hts (gCL w_co_yX2_init) rfl rfl rfl (hw w_init_MicroMillModel) (hw w_m_L_12) (hw w_im_yX2_init) rfl (by decide +kernel) ⟨Nat.le_of_ble_eq_true rfl, Nat.le_of_ble_eq_true rfl⟩) (preNI hK hPc (hDc.weaken (fun _ _ _ _ => trivial)) hN []) rfl rfl hl.1 rfl (lv_room (Nat.le_of_ble_eq_true rfl)) dL_law_12 ⟨Nat.le_of_ble_eq_true rfl, Nat.le_of_ble_eq_true rfl⟩) hS (fun q _ h => hFc q h) hFc (fun w t H1 locs ht hvm hw1 hB hz hk hS => ?_)
  obtain ⟨aw2, ar2⟩ := w
  obtain ⟨hP1, hK1, hD1⟩ := hB
  subst ht
  obtain ⟨hP, hD⟩ := va_join (wr := clA o aw ar ak kI inA) (w1 := clD o2 aw2 ar2 kI inD) hP hD [4] [0, 1, 2, 3] rfl rfl (by decide) (by decide) hk hFc hP1 hD1
  generalize t.heap = H at hP hS ⊢
  refine lv_astore_n (lv' := [(2, .ref o2), (1, .ref o), (0, .ref b)]) hx hb dL_law_15 rfl hl (by decide) rfl (fun ls hl => ?_)
  refine lv_iconst (v := nI 0) hx hb dL_law_16 (by decide) ?_
  refine lv_istore_n (lv' := [(3, .int (nI 0)), (2, .ref o2), (1, .ref o), (0, .ref b)]) hx hb dL_law_17 rfl hl (by decide) rfl (fun ls hl => ?_)
  exact law_loop l hL hx hb hr hml hown hts hX hbl hlocks hAe hK hZ (L + 4) 0 inA inD H locs ls (by omega) (by omega) Rl_in hP hD hS (lv_sub hl [3, 2, 1, 0] rfl)
