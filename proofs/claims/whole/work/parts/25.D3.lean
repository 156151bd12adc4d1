def fnD_two_251 (u : sD) (x9 : Int32) : Option (Int32 × sD) := some (x9, u)
def fnD_two_234 (u : sD) (x9 : Int32) (y0 : Int32) (y1 : Int32) (y2 : Int32) (y3 : Int32) : Option (Int32 × sD) := (fnD_tell u y3 y2 y1 y0).bind (fun r22 => fnD_two_251 r22.2 x9)
def fnD_two_222 (u : sD) (x7 : Int32) (x8 : Int32) (x9 : Int32) (y0 : Int32) (y1 : Int32) (y2 : Int32) : Option (Int32 × sD) := if x8 ≤ x7 then (fnD_two_234 u x9 (0 : Int32) y0 y1 y2) else (fnD_two_234 u x9 (1 : Int32) y0 y1 y2)
def fnD_two_221 (u : sD) (x7 : Int32) (x8 : Int32) (x9 : Int32) (y0 : Int32) (y1 : Int32) : Option (Int32 × sD) := fnD_two_222 u x7 x8 x9 (0 : Int32) y0 y1
def fnD_two_186 (u : sD) (x4 : Int32) (x7 : Int32) (x8 : Int32) (x9 : Int32) : Option (Int32 × sD) := if (x7 &&& x4) = (x8 &&& x4) then (fnD_two_221 u x7 x8 x9 x4 x9) else (if (x9 &&& x4) = (x8 &&& x4) then (fnD_two_222 u x7 x8 x9 (1 : Int32) x4 x9) else (fnD_two_221 u x7 x8 x9 x4 x9))
def fnD_two_169 (u : sD) (x9 : Int32) (y0 : Int32) (y1 : Int32) (y2 : Int32) (y3 : Int32) : Option (Int32 × sD) := (fnD_tell u y3 y2 y1 y0).bind (fun r20 => fnD_two_251 r20.2 x9)
def fnD_two_156 (u : sD) (x2 : Int32) (x3 : Int32) (x5 : Int32) (x9 : Int32) (y0 : Int32) (y1 : Int32) (y2 : Int32) : Option (Int32 × sD) := if (x3 + x2) ≤ x5 then (fnD_two_169 u x9 (0 : Int32) y0 y1 y2) else (fnD_two_169 u x9 (1 : Int32) y0 y1 y2)
def fnD_two_155 (u : sD) (x2 : Int32) (x3 : Int32) (x5 : Int32) (x9 : Int32) (y0 : Int32) (y1 : Int32) : Option (Int32 × sD) := fnD_two_156 u x2 x3 x5 x9 (0 : Int32) y0 y1
def fnD_two_115 (u : sD) (x1 : Int32) (x2 : Int32) (x3 : Int32) (x4 : Int32) (x5 : Int32) (x6 : Int32) (x7 : Int32) (x8 : Int32) (y0 : Int32) : Option (Int32 × sD) := if x1 = (6 : Int32) then (if (x2 &&& x4) = (x3 &&& x4) then (if (y0 &&& x4) = (x2 &&& x4) then (fnD_two_155 u x2 x3 x5 y0 x4 y0) else (fnD_two_156 u x2 x3 x5 y0 (1 : Int32) x4 y0)) else (fnD_two_155 u x2 x3 x5 y0 x4 y0)) else (if x1 = (2 : Int32) then (fnD_two_186 u x4 x7 x8 y0) else (if x1 = (7 : Int32) then (fnD_two_186 u x4 x7 x8 y0) else ((fnD_tell u y0 x4 (0 : Int32) x6).bind (fun r12 => fnD_two_251 r12.2 y0))))
def fnD_two_46 (u : sD) (x1 : Int32) (x2 : Int32) (x3 : Int32) (x4 : Int32) (x5 : Int32) (x6 : Int32) (x7 : Int32) (y0 : Int32) : Option (Int32 × sD) := if x1 = (1 : Int32) then (fnD_two_115 u x1 x2 x3 x4 x5 x6 x7 y0 x2) else (if x1 = (3 : Int32) then (fnD_two_115 u x1 x2 x3 x4 x5 x6 x7 y0 (x2 &&& x3)) else (if x1 = (4 : Int32) then (fnD_two_115 u x1 x2 x3 x4 x5 x6 x7 y0 (x3 &&& (x2 ^^^ (-1 : Int32)))) else (if x1 = (5 : Int32) then (fnD_two_115 u x1 x2 x3 x4 x5 x6 x7 y0 (x2 ||| x3)) else (if x1 = (6 : Int32) then (fnD_two_115 u x1 x2 x3 x4 x5 x6 x7 y0 ((x3 + x2) &&& x5)) else (fnD_two_115 u x1 x2 x3 x4 x5 x6 x7 y0 ((x7 - y0) &&& x5))))))
def fnD_two_34 (u : sD) (x1 : Int32) (x2 : Int32) (x3 : Int32) (x4 : Int32) (x5 : Int32) (x6 : Int32) (y0 : Int32) : Option (Int32 × sD) := if x1 = (2 : Int32) then (fnD_two_46 u x1 x2 x3 x4 x5 x6 y0 x3) else (fnD_two_46 u x1 x2 x3 x4 x5 x6 y0 x2)
def fnD_two_22 (u : sD) (x1 : Int32) (x2 : Int32) (x3 : Int32) (x4 : Int32) (x5 : Int32) (y0 : Int32) : Option (Int32 × sD) := if x1 = (2 : Int32) then (fnD_two_34 u x1 x2 x3 x4 x5 y0 x2) else (fnD_two_34 u x1 x2 x3 x4 x5 y0 x3)
def fnD_two (u : sD) (a1 : Int32) (a2 : Int32) (a3 : Int32) (a4 : Int32) : Option (Int32 × sD) := if (u.2.2.1 &&& (1 : Int32)) = 0 then (fnD_two_22 u a1 a2 a3 a4 (((2 : Int32) * a4) - (1 : Int32)) (0 : Int32)) else (fnD_two_22 u a1 a2 a3 a4 (((2 : Int32) * a4) - (1 : Int32)) (1 : Int32))
set_option maxRecDepth 100000 in
set_option maxHeartbeats 4000000 in
theorem ctD_two (l : Launch) (D : va_G) (kI : ClassId) (o aw ar : Nat) (sz : Nat) (u : sD) (a1 : Int32) (a2 : Int32) (a3 : Int32) (a4 : Int32) (tg : Int32 × sD) (ht : fnD_two u a1 a2 a3 a4 = some tg) : Met l yX2_two (Cond.code yX2_two cX2_two 10 (some .int) :: wAll) ({ frames := 1, cells := 0, slots := 0, locals := 24 } : Room) (va_Pc [.ref o, .int a1, .int a2, .int a3, .int a4] (prG D kI (clD o aw ar kI) sz u)) (va_Qi (fun (x : Int32) (v : sD) => x = tg.1 ∧ v = tg.2) (poG D kI (clD o aw ar kI) (va_A (clD o aw ar kI u) sz)) (va_A (clD o aw ar kI u) sz)) 0 0 (va_A (clD o aw ar kI u) sz) := by
  refine mOfW (cc := cX2_two) (maxL := 10) (ret := (some .int)) (by decide) rfl ?_
  intro p e s m args below meth c s₁ Q R hQ hR B hml hv
  obtain ⟨rfl, hsz, hP, hK, hD0⟩ := hv
  have hx := B.exec
  have hb := B.bytes
  have hr := B.returns
  have hts := atoms_spec (ws := Cond.code yX2_two cX2_two 10 (some .int) :: wAll) B.pre
  have hw : ∀ {w : Cond}, w ∈ wAll → w.before _ s = true := fun {w} h => hts w (List.mem_cons_of_mem _ h)
  have hown : s.vm.findClass RX2 = some m.cls := findClass_of_methodNamed B.named
  have hlocks := B.notSynchronized
  have hRf : 1 ≤ R.frames := by rw [hR]; exact Nat.le_refl _
  have hRl : 24 ≤ R.locals := by rw [hR]; exact Nat.le_refl _
  subst hsz
  have hD := hD0.self (sz := s.heap.size)
  generalize hAe : va_A (clD o aw ar kI u) s.heap.size = A at hD  hQ
  have hA : ∀ q : Nat, s.heap.size ≤ q → A q := fun q h => by rw [← hAe]; exact Or.inr h
  have hl := lv_entry ([.ref o, .int a1, .int a2, .int a3, .int a4]) (n := 10) (Nat.le_of_ble_eq_true rfl)
  rw [lg_entry_eq]
  generalize (lg_sl ([.ref o, .int a1, .int a2, .int a3, .int a4]) ++ List.replicate (10 - (lg_sl ([.ref o, .int a1, .int a2, .int a3, .int a4])).length) Slot.unset).toArray = ls at hl ⊢
  have hl : lv_has ls 10 [(0, .ref o), (1, .int a1), (2, .int a2), (3, .int a3), (4, .int a4)] := hl
  have hin0 : ∀ w ∈ u_ws RX2 TX2 7, w ∈ (Cond.code yX2_two cX2_two 10 (some .int) :: wAll) := fun w h => List.mem_cons_of_mem _ (w_flX2 w h)
  have K251 : ∀ (H : Heap) (locs : List Loc) (ls : Array Slot) (u : sD) (x9 : Int32) , va_P D vwCl (clD o aw ar kI u) H → va_D A (clD o aw ar kI u) → va_S A s.heap H locs → lv_has ls 10 [(9, .int x9)] → fnD_two_251 u x9 = some tg → W p l e R s m ([.ref o, .int a1, .int a2, .int a3, .int a4] : List Value).toArray below meth c H locs 0 0 Q (F0 m 251 ls []) := by
    intro H locs ls u x9 hP hD hS hl ht
    unfold fnD_two_251 at ht
    refine lv_iload hx hb dX2_two_251 (lv_at hl 0 rfl) ?_
    have e9 := Option.some.inj ht
    subst hQ
    exact W.iret (v := x9) hx hb hr (fun t ht9 hW => ⟨⟨x9, u, rfl, ⟨pr1 e9, pr2 e9⟩, ⟨by rw [ht9]; exact hP, va_K.moved hW.alike hK, hD⟩⟩, hS.F ht9⟩) hS.2.2 dX2_two_253
  have K234 : ∀ (H : Heap) (locs : List Loc) (ls : Array Slot) (u : sD) (x9 : Int32) (y0 : Int32) (y1 : Int32) (y2 : Int32) (y3 : Int32) , va_P D vwCl (clD o aw ar kI u) H → va_D A (clD o aw ar kI u) → va_S A s.heap H locs → lv_has ls 10 [(9, .int x9)] → fnD_two_234 u x9 y0 y1 y2 y3 = some tg → W p l e R s m ([.ref o, .int a1, .int a2, .int a3, .int a4] : List Value).toArray below meth c H locs 0 0 Q (F0 m 234 ls [.int y0, .int y1, .int y2, .int y3, .ref o]) := by
    intro H locs ls u x9 y0 y1 y2 y3 hP hD hS hl ht
    unfold fnD_two_234 at ht
    obtain ⟨r22, h23, ht⟩ := ob_some ht
    refine kG_v (cl := clD o aw ar kI) (u := u) (va_runV (As := [.int y3, .int y2, .int y1, .int y0]) (rest := []) ⟨hx, hb, hml, hown, hts⟩ (ctD_tell l D kI o aw ar H.size u y3 y2 y1 y0 r22 h23) (cwV 4 hts (gV w_m_X2_50 w_im_yX2_tell w_sel_yX2_tell w_init_MicroMillModel w_co_yX2_tell) rfl rfl rfl (by decide +kernel) ⟨Nat.le_trans (Nat.le_of_ble_eq_true rfl) hRf, Nat.le_trans (Nat.le_of_ble_eq_true rfl) hRl⟩) (preG (cl := clD o aw ar kI) (u := u) (N := 7) (ci := 2) hK hP (hD.weaken (fun _ _ _ _ => trivial)) rfl rfl _) rfl rfl hl.1 rfl (lv_room (Nat.le_of_ble_eq_true rfl)) dX2_two_234 ⟨Nat.zero_le _, Nat.zero_le _⟩) hD hS hA (fun H locs hP hD hS => ?_)
    refine lv_goto (tgt := 251) hx hb dX2_two_237 (by decide) ?_
    exact K251 _ _ _ r22.2 x9 hP hD hS (lv_sub hl [0] rfl) ht
  have K222 : ∀ (H : Heap) (locs : List Loc) (ls : Array Slot) (u : sD) (x7 : Int32) (x8 : Int32) (x9 : Int32) (y0 : Int32) (y1 : Int32) (y2 : Int32) , va_P D vwCl (clD o aw ar kI u) H → va_D A (clD o aw ar kI u) → va_S A s.heap H locs → lv_has ls 10 [(7, .int x7), (8, .int x8), (9, .int x9)] → fnD_two_222 u x7 x8 x9 y0 y1 y2 = some tg → W p l e R s m ([.ref o, .int a1, .int a2, .int a3, .int a4] : List Value).toArray below meth c H locs 0 0 Q (F0 m 222 ls [.int y0, .int y1, .int y2, .ref o]) := by
    intro H locs ls u x7 x8 x9 y0 y1 y2 hP hD hS hl ht
    unfold fnD_two_222 at ht
    refine lv_iload hx hb dX2_two_222 (lv_at hl 0 rfl) ?_
    refine lv_iload hx hb dX2_two_224 (lv_at hl 1 rfl) ?_
    refine lv_icmp_ge (tgt := 233) hx hb dX2_two_226 (by decide) (fun g19 => ?_) (fun g19 => ?_)
    · have ht := (if_pos g19).symm.trans ht
      refine lv_iconst (v := (0 : Int32)) hx hb dX2_two_233 (by decide) ?_
      exact K234 _ _ _ u x9 (0 : Int32) y0 y1 y2 hP hD hS (lv_sub hl [2] rfl) ht
    · have ht := (if_neg g19).symm.trans ht
      refine lv_iconst (v := (1 : Int32)) hx hb dX2_two_229 (by decide) ?_
      refine lv_goto (tgt := 234) hx hb dX2_two_230 (by decide) ?_
      exact K234 _ _ _ u x9 (1 : Int32) y0 y1 y2 hP hD hS (lv_sub hl [2] rfl) ht
  have K221 : ∀ (H : Heap) (locs : List Loc) (ls : Array Slot) (u : sD) (x7 : Int32) (x8 : Int32) (x9 : Int32) (y0 : Int32) (y1 : Int32) , va_P D vwCl (clD o aw ar kI u) H → va_D A (clD o aw ar kI u) → va_S A s.heap H locs → lv_has ls 10 [(7, .int x7), (8, .int x8), (9, .int x9)] → fnD_two_221 u x7 x8 x9 y0 y1 = some tg → W p l e R s m ([.ref o, .int a1, .int a2, .int a3, .int a4] : List Value).toArray below meth c H locs 0 0 Q (F0 m 221 ls [.int y0, .int y1, .ref o]) := by
    intro H locs ls u x7 x8 x9 y0 y1 hP hD hS hl ht
    unfold fnD_two_221 at ht
    refine lv_iconst (v := (0 : Int32)) hx hb dX2_two_221 (by decide) ?_
    exact K222 _ _ _ u x7 x8 x9 (0 : Int32) y0 y1 hP hD hS (lv_sub hl [0, 1, 2] rfl) ht
  have K186 : ∀ (H : Heap) (locs : List Loc) (ls : Array Slot) (u : sD) (x4 : Int32) (x7 : Int32) (x8 : Int32) (x9 : Int32) , va_P D vwCl (clD o aw ar kI u) H → va_D A (clD o aw ar kI u) → va_S A s.heap H locs → lv_has ls 10 [(0, .ref o), (4, .int x4), (7, .int x7), (8, .int x8), (9, .int x9)] → fnD_two_186 u x4 x7 x8 x9 = some tg → W p l e R s m ([.ref o, .int a1, .int a2, .int a3, .int a4] : List Value).toArray below meth c H locs 0 0 Q (F0 m 186 ls []) := by
    intro H locs ls u x4 x7 x8 x9 hP hD hS hl ht
    unfold fnD_two_186 at ht
    refine lv_aload_n hx hb dX2_two_186 rfl (lv_at hl 0 rfl) ?_
    refine lv_iload hx hb dX2_two_187 (lv_at hl 4 rfl) ?_
    refine lv_iload hx hb dX2_two_189 (lv_at hl 1 rfl) ?_
    refine lv_iload hx hb dX2_two_191 (lv_at hl 2 rfl) ?_
    refine lv_iload hx hb dX2_two_193 (lv_at hl 1 rfl) ?_
    refine lv_iand hx hb dX2_two_195 ?_
    refine lv_iload hx hb dX2_two_196 (lv_at hl 3 rfl) ?_
    refine lv_iload hx hb dX2_two_198 (lv_at hl 1 rfl) ?_
    refine lv_iand hx hb dX2_two_200 ?_
    refine lv_icmp_eq (tgt := 221) hx hb dX2_two_201 (by decide) (fun g16 => ?_) (fun g16 => ?_)
    · have ht := (if_pos g16).symm.trans ht
      exact K221 _ _ _ u x7 x8 x9 x4 x9 hP hD hS (lv_sub hl [2, 3, 4] rfl) ht
    · have ht := (if_neg g16).symm.trans ht
      refine lv_iload hx hb dX2_two_204 (lv_at hl 4 rfl) ?_
      refine lv_iload hx hb dX2_two_206 (lv_at hl 1 rfl) ?_
      refine lv_iand hx hb dX2_two_208 ?_
      refine lv_iload hx hb dX2_two_209 (lv_at hl 3 rfl) ?_
      refine lv_iload hx hb dX2_two_211 (lv_at hl 1 rfl) ?_
      refine lv_iand hx hb dX2_two_213 ?_
      refine lv_icmp_ne (tgt := 221) hx hb dX2_two_214 (by decide) (fun g17 => ?_) (fun g17 => ?_)
      · have ht := (if_neg g17).symm.trans ht
        exact K221 _ _ _ u x7 x8 x9 x4 x9 hP hD hS (lv_sub hl [2, 3, 4] rfl) ht
      · have ht := (if_pos g17).symm.trans ht
        refine lv_iconst (v := (1 : Int32)) hx hb dX2_two_217 (by decide) ?_
        refine lv_goto (tgt := 222) hx hb dX2_two_218 (by decide) ?_
        exact K222 _ _ _ u x7 x8 x9 (1 : Int32) x4 x9 hP hD hS (lv_sub hl [2, 3, 4] rfl) ht
  have K169 : ∀ (H : Heap) (locs : List Loc) (ls : Array Slot) (u : sD) (x9 : Int32) (y0 : Int32) (y1 : Int32) (y2 : Int32) (y3 : Int32) , va_P D vwCl (clD o aw ar kI u) H → va_D A (clD o aw ar kI u) → va_S A s.heap H locs → lv_has ls 10 [(9, .int x9)] → fnD_two_169 u x9 y0 y1 y2 y3 = some tg → W p l e R s m ([.ref o, .int a1, .int a2, .int a3, .int a4] : List Value).toArray below meth c H locs 0 0 Q (F0 m 169 ls [.int y0, .int y1, .int y2, .int y3, .ref o]) := by
    intro H locs ls u x9 y0 y1 y2 y3 hP hD hS hl ht
    unfold fnD_two_169 at ht
    obtain ⟨r20, h21, ht⟩ := ob_some ht
    refine kG_v (cl := clD o aw ar kI) (u := u) (va_runV (As := [.int y3, .int y2, .int y1, .int y0]) (rest := []) ⟨hx, hb, hml, hown, hts⟩ (ctD_tell l D kI o aw ar H.size u y3 y2 y1 y0 r20 h21) (cwV 4 hts (gV w_m_X2_50 w_im_yX2_tell w_sel_yX2_tell w_init_MicroMillModel w_co_yX2_tell) rfl rfl rfl (by decide +kernel) ⟨Nat.le_trans (Nat.le_of_ble_eq_true rfl) hRf, Nat.le_trans (Nat.le_of_ble_eq_true rfl) hRl⟩) (preG (cl := clD o aw ar kI) (u := u) (N := 7) (ci := 2) hK hP (hD.weaken (fun _ _ _ _ => trivial)) rfl rfl _) rfl rfl hl.1 rfl (lv_room (Nat.le_of_ble_eq_true rfl)) dX2_two_169 ⟨Nat.zero_le _, Nat.zero_le _⟩) hD hS hA (fun H locs hP hD hS => ?_)
    refine lv_goto (tgt := 251) hx hb dX2_two_172 (by decide) ?_
    exact K251 _ _ _ r20.2 x9 hP hD hS (lv_sub hl [0] rfl) ht
  have K156 : ∀ (H : Heap) (locs : List Loc) (ls : Array Slot) (u : sD) (x2 : Int32) (x3 : Int32) (x5 : Int32) (x9 : Int32) (y0 : Int32) (y1 : Int32) (y2 : Int32) , va_P D vwCl (clD o aw ar kI u) H → va_D A (clD o aw ar kI u) → va_S A s.heap H locs → lv_has ls 10 [(2, .int x2), (3, .int x3), (5, .int x5), (9, .int x9)] → fnD_two_156 u x2 x3 x5 x9 y0 y1 y2 = some tg → W p l e R s m ([.ref o, .int a1, .int a2, .int a3, .int a4] : List Value).toArray below meth c H locs 0 0 Q (F0 m 156 ls [.int y0, .int y1, .int y2, .ref o]) := by
    intro H locs ls u x2 x3 x5 x9 y0 y1 y2 hP hD hS hl ht
    unfold fnD_two_156 at ht
    refine lv_iload_n hx hb dX2_two_156 rfl (lv_at hl 1 rfl) ?_
    refine lv_iload_n hx hb dX2_two_157 rfl (lv_at hl 0 rfl) ?_
    refine lv_iadd hx hb dX2_two_158 ?_
    refine lv_iload hx hb dX2_two_159 (lv_at hl 2 rfl) ?_
    refine lv_icmp_le (tgt := 168) hx hb dX2_two_161 (by decide) (fun g18 => ?_) (fun g18 => ?_)
    · have ht := (if_pos g18).symm.trans ht
      refine lv_iconst (v := (0 : Int32)) hx hb dX2_two_168 (by decide) ?_
      exact K169 _ _ _ u x9 (0 : Int32) y0 y1 y2 hP hD hS (lv_sub hl [3] rfl) ht
    · have ht := (if_neg g18).symm.trans ht
      refine lv_iconst (v := (1 : Int32)) hx hb dX2_two_164 (by decide) ?_
      refine lv_goto (tgt := 169) hx hb dX2_two_165 (by decide) ?_
      exact K169 _ _ _ u x9 (1 : Int32) y0 y1 y2 hP hD hS (lv_sub hl [3] rfl) ht
  have K155 : ∀ (H : Heap) (locs : List Loc) (ls : Array Slot) (u : sD) (x2 : Int32) (x3 : Int32) (x5 : Int32) (x9 : Int32) (y0 : Int32) (y1 : Int32) , va_P D vwCl (clD o aw ar kI u) H → va_D A (clD o aw ar kI u) → va_S A s.heap H locs → lv_has ls 10 [(2, .int x2), (3, .int x3), (5, .int x5), (9, .int x9)] → fnD_two_155 u x2 x3 x5 x9 y0 y1 = some tg → W p l e R s m ([.ref o, .int a1, .int a2, .int a3, .int a4] : List Value).toArray below meth c H locs 0 0 Q (F0 m 155 ls [.int y0, .int y1, .ref o]) := by
    intro H locs ls u x2 x3 x5 x9 y0 y1 hP hD hS hl ht
    unfold fnD_two_155 at ht
    refine lv_iconst (v := (0 : Int32)) hx hb dX2_two_155 (by decide) ?_
    exact K156 _ _ _ u x2 x3 x5 x9 (0 : Int32) y0 y1 hP hD hS (lv_sub hl [0, 1, 2, 3] rfl) ht
  have K115 : ∀ (H : Heap) (locs : List Loc) (ls : Array Slot) (u : sD) (x1 : Int32) (x2 : Int32) (x3 : Int32) (x4 : Int32) (x5 : Int32) (x6 : Int32) (x7 : Int32) (x8 : Int32) (y0 : Int32) , va_P D vwCl (clD o aw ar kI u) H → va_D A (clD o aw ar kI u) → va_S A s.heap H locs → lv_has ls 10 [(0, .ref o), (1, .int x1), (2, .int x2), (3, .int x3), (4, .int x4), (5, .int x5), (6, .int x6), (7, .int x7), (8, .int x8)] → fnD_two_115 u x1 x2 x3 x4 x5 x6 x7 x8 y0 = some tg → W p l e R s m ([.ref o, .int a1, .int a2, .int a3, .int a4] : List Value).toArray below meth c H locs 0 0 Q (F0 m 115 ls [.int y0]) := by
    intro H locs ls u x1 x2 x3 x4 x5 x6 x7 x8 y0 hP hD hS hl ht
    unfold fnD_two_115 at ht
    refine lv_istore (lv' := [(9, .int y0), (0, .ref o), (1, .int x1), (2, .int x2), (3, .int x3), (4, .int x4), (5, .int x5), (6, .int x6), (7, .int x7), (8, .int x8)]) hx hb dX2_two_115 hl (by decide) rfl (fun ls hl => ?_)
    refine lv_iload_n hx hb dX2_two_117 rfl (lv_at hl 2 rfl) ?_
    refine lv_bipush (v := (6 : Int32)) hx hb dX2_two_118 (by decide) ?_
    refine lv_icmp_ne (tgt := 175) hx hb dX2_two_120 (by decide) (fun g9 => ?_) (fun g9 => ?_)
    · have ht := (if_neg g9).symm.trans ht
      refine lv_iload_n hx hb dX2_two_175 rfl (lv_at hl 2 rfl) ?_
      refine lv_iconst (v := (2 : Int32)) hx hb dX2_two_176 (by decide) ?_
      refine lv_icmp_eq (tgt := 186) hx hb dX2_two_177 (by decide) (fun g10 => ?_) (fun g10 => ?_)
      · have ht := (if_pos g10).symm.trans ht
        exact K186 _ _ _ u x4 x7 x8 y0 hP hD hS (lv_sub hl [1, 5, 8, 9, 0] rfl) ht
      · have ht := (if_neg g10).symm.trans ht
        refine lv_iload_n hx hb dX2_two_180 rfl (lv_at hl 2 rfl) ?_
        refine lv_bipush (v := (7 : Int32)) hx hb dX2_two_181 (by decide) ?_
        refine lv_icmp_ne (tgt := 240) hx hb dX2_two_183 (by decide) (fun g11 => ?_) (fun g11 => ?_)
        · have ht := (if_neg g11).symm.trans ht
          refine lv_aload_n hx hb dX2_two_240 rfl (lv_at hl 1 rfl) ?_
          refine lv_iload hx hb dX2_two_241 (lv_at hl 0 rfl) ?_
          refine lv_iload hx hb dX2_two_243 (lv_at hl 5 rfl) ?_
          refine lv_iconst (v := (0 : Int32)) hx hb dX2_two_245 (by decide) ?_
          refine lv_iload hx hb dX2_two_246 (lv_at hl 7 rfl) ?_
          obtain ⟨r12, h13, ht⟩ := ob_some ht
          refine kG_v (cl := clD o aw ar kI) (u := u) (va_runV (As := [.int y0, .int x4, .int (0 : Int32), .int x6]) (rest := []) ⟨hx, hb, hml, hown, hts⟩ (ctD_tell l D kI o aw ar H.size u y0 x4 (0 : Int32) x6 r12 h13) (cwV 4 hts (gV w_m_X2_50 w_im_yX2_tell w_sel_yX2_tell w_init_MicroMillModel w_co_yX2_tell) rfl rfl rfl (by decide +kernel) ⟨Nat.le_trans (Nat.le_of_ble_eq_true rfl) hRf, Nat.le_trans (Nat.le_of_ble_eq_true rfl) hRl⟩) (preG (cl := clD o aw ar kI) (u := u) (N := 7) (ci := 2) hK hP (hD.weaken (fun _ _ _ _ => trivial)) rfl rfl _) rfl rfl hl.1 rfl (lv_room (Nat.le_of_ble_eq_true rfl)) dX2_two_248 ⟨Nat.zero_le _, Nat.zero_le _⟩) hD hS hA (fun H locs hP hD hS => ?_)
          exact K251 _ _ _ r12.2 y0 hP hD hS (lv_sub hl [0] rfl) ht
        · have ht := (if_pos g11).symm.trans ht
          exact K186 _ _ _ u x4 x7 x8 y0 hP hD hS (lv_sub hl [1, 5, 8, 9, 0] rfl) ht
    · have ht := (if_pos g9).symm.trans ht
      refine lv_aload_n hx hb dX2_two_123 rfl (lv_at hl 1 rfl) ?_
      refine lv_iload hx hb dX2_two_124 (lv_at hl 0 rfl) ?_
      refine lv_iload hx hb dX2_two_126 (lv_at hl 5 rfl) ?_
      refine lv_iload_n hx hb dX2_two_128 rfl (lv_at hl 3 rfl) ?_
      refine lv_iload hx hb dX2_two_129 (lv_at hl 5 rfl) ?_
      refine lv_iand hx hb dX2_two_131 ?_
      refine lv_iload_n hx hb dX2_two_132 rfl (lv_at hl 4 rfl) ?_
      refine lv_iload hx hb dX2_two_133 (lv_at hl 5 rfl) ?_
      refine lv_iand hx hb dX2_two_135 ?_
      refine lv_icmp_ne (tgt := 155) hx hb dX2_two_136 (by decide) (fun g14 => ?_) (fun g14 => ?_)
      · have ht := (if_neg g14).symm.trans ht
        exact K155 _ _ _ u x2 x3 x5 y0 x4 y0 hP hD hS (lv_sub hl [3, 4, 6, 0] rfl) ht
      · have ht := (if_pos g14).symm.trans ht
        refine lv_iload hx hb dX2_two_139 (lv_at hl 0 rfl) ?_
        refine lv_iload hx hb dX2_two_141 (lv_at hl 5 rfl) ?_
        refine lv_iand hx hb dX2_two_143 ?_
        refine lv_iload_n hx hb dX2_two_144 rfl (lv_at hl 3 rfl) ?_
        refine lv_iload hx hb dX2_two_145 (lv_at hl 5 rfl) ?_
        refine lv_iand hx hb dX2_two_147 ?_
        refine lv_icmp_eq (tgt := 155) hx hb dX2_two_148 (by decide) (fun g15 => ?_) (fun g15 => ?_)
        · have ht := (if_pos g15).symm.trans ht
          exact K155 _ _ _ u x2 x3 x5 y0 x4 y0 hP hD hS (lv_sub hl [3, 4, 6, 0] rfl) ht
        · have ht := (if_neg g15).symm.trans ht
          refine lv_iconst (v := (1 : Int32)) hx hb dX2_two_151 (by decide) ?_
          refine lv_goto (tgt := 156) hx hb dX2_two_152 (by decide) ?_
          exact K156 _ _ _ u x2 x3 x5 y0 (1 : Int32) x4 y0 hP hD hS (lv_sub hl [3, 4, 6, 0] rfl) ht
  have K46 : ∀ (H : Heap) (locs : List Loc) (ls : Array Slot) (u : sD) (x1 : Int32) (x2 : Int32) (x3 : Int32) (x4 : Int32) (x5 : Int32) (x6 : Int32) (x7 : Int32) (y0 : Int32) , va_P D vwCl (clD o aw ar kI u) H → va_D A (clD o aw ar kI u) → va_S A s.heap H locs → lv_has ls 10 [(0, .ref o), (1, .int x1), (2, .int x2), (3, .int x3), (4, .int x4), (5, .int x5), (6, .int x6), (7, .int x7)] → fnD_two_46 u x1 x2 x3 x4 x5 x6 x7 y0 = some tg → W p l e R s m ([.ref o, .int a1, .int a2, .int a3, .int a4] : List Value).toArray below meth c H locs 0 0 Q (F0 m 46 ls [.int y0]) := by
    intro H locs ls u x1 x2 x3 x4 x5 x6 x7 y0 hP hD hS hl ht
    unfold fnD_two_46 at ht
    refine lv_istore (lv' := [(8, .int y0), (0, .ref o), (1, .int x1), (2, .int x2), (3, .int x3), (4, .int x4), (5, .int x5), (6, .int x6), (7, .int x7)]) hx hb dX2_two_46 hl (by decide) rfl (fun ls hl => ?_)
    refine lv_iload_n hx hb dX2_two_48 rfl (lv_at hl 2 rfl) ?_
    refine lv_iconst (v := (1 : Int32)) hx hb dX2_two_49 (by decide) ?_
    refine lv_icmp_ne (tgt := 57) hx hb dX2_two_50 (by decide) (fun g4 => ?_) (fun g4 => ?_)
    · have ht := (if_neg g4).symm.trans ht
      refine lv_iload_n hx hb dX2_two_57 rfl (lv_at hl 2 rfl) ?_
      refine lv_iconst (v := (3 : Int32)) hx hb dX2_two_58 (by decide) ?_
      refine lv_icmp_ne (tgt := 68) hx hb dX2_two_59 (by decide) (fun g5 => ?_) (fun g5 => ?_)
      · have ht := (if_neg g5).symm.trans ht
        refine lv_iload_n hx hb dX2_two_68 rfl (lv_at hl 2 rfl) ?_
        refine lv_iconst (v := (4 : Int32)) hx hb dX2_two_69 (by decide) ?_
        refine lv_icmp_ne (tgt := 81) hx hb dX2_two_70 (by decide) (fun g6 => ?_) (fun g6 => ?_)
        · have ht := (if_neg g6).symm.trans ht
          refine lv_iload_n hx hb dX2_two_81 rfl (lv_at hl 2 rfl) ?_
          refine lv_iconst (v := (5 : Int32)) hx hb dX2_two_82 (by decide) ?_
          refine lv_icmp_ne (tgt := 92) hx hb dX2_two_83 (by decide) (fun g7 => ?_) (fun g7 => ?_)
          · have ht := (if_neg g7).symm.trans ht
            refine lv_iload_n hx hb dX2_two_92 rfl (lv_at hl 2 rfl) ?_
            refine lv_bipush (v := (6 : Int32)) hx hb dX2_two_93 (by decide) ?_
            refine lv_icmp_ne (tgt := 107) hx hb dX2_two_95 (by decide) (fun g8 => ?_) (fun g8 => ?_)
            · have ht := (if_neg g8).symm.trans ht
              refine lv_iload hx hb dX2_two_107 (lv_at hl 8 rfl) ?_
              refine lv_iload hx hb dX2_two_109 (lv_at hl 0 rfl) ?_
              refine lv_isub hx hb dX2_two_111 ?_
              refine lv_iload hx hb dX2_two_112 (lv_at hl 6 rfl) ?_
              refine lv_iand hx hb dX2_two_114 ?_
              exact K115 _ _ _ u x1 x2 x3 x4 x5 x6 x7 y0 ((x7 - y0) &&& x5) hP hD hS (lv_sub hl [1, 2, 3, 4, 5, 6, 7, 8, 0] rfl) ht
            · have ht := (if_pos g8).symm.trans ht
              refine lv_iload_n hx hb dX2_two_98 rfl (lv_at hl 4 rfl) ?_
              refine lv_iload_n hx hb dX2_two_99 rfl (lv_at hl 3 rfl) ?_
              refine lv_iadd hx hb dX2_two_100 ?_
              refine lv_iload hx hb dX2_two_101 (lv_at hl 6 rfl) ?_
              refine lv_iand hx hb dX2_two_103 ?_
              refine lv_goto (tgt := 115) hx hb dX2_two_104 (by decide) ?_
              exact K115 _ _ _ u x1 x2 x3 x4 x5 x6 x7 y0 ((x3 + x2) &&& x5) hP hD hS (lv_sub hl [1, 2, 3, 4, 5, 6, 7, 8, 0] rfl) ht
          · have ht := (if_pos g7).symm.trans ht
            refine lv_iload_n hx hb dX2_two_86 rfl (lv_at hl 3 rfl) ?_
            refine lv_iload_n hx hb dX2_two_87 rfl (lv_at hl 4 rfl) ?_
            refine lv_ior hx hb dX2_two_88 ?_
            refine lv_goto (tgt := 115) hx hb dX2_two_89 (by decide) ?_
            exact K115 _ _ _ u x1 x2 x3 x4 x5 x6 x7 y0 (x2 ||| x3) hP hD hS (lv_sub hl [1, 2, 3, 4, 5, 6, 7, 8, 0] rfl) ht
        · have ht := (if_pos g6).symm.trans ht
          refine lv_iload_n hx hb dX2_two_73 rfl (lv_at hl 4 rfl) ?_
          refine lv_iload_n hx hb dX2_two_74 rfl (lv_at hl 3 rfl) ?_
          refine lv_iconst (v := (-1 : Int32)) hx hb dX2_two_75 (by decide) ?_
          refine lv_ixor hx hb dX2_two_76 ?_
          refine lv_iand hx hb dX2_two_77 ?_
          refine lv_goto (tgt := 115) hx hb dX2_two_78 (by decide) ?_
          exact K115 _ _ _ u x1 x2 x3 x4 x5 x6 x7 y0 (x3 &&& (x2 ^^^ (-1 : Int32))) hP hD hS (lv_sub hl [1, 2, 3, 4, 5, 6, 7, 8, 0] rfl) ht
      · have ht := (if_pos g5).symm.trans ht
        refine lv_iload_n hx hb dX2_two_62 rfl (lv_at hl 3 rfl) ?_
        refine lv_iload_n hx hb dX2_two_63 rfl (lv_at hl 4 rfl) ?_
        refine lv_iand hx hb dX2_two_64 ?_
        refine lv_goto (tgt := 115) hx hb dX2_two_65 (by decide) ?_
        exact K115 _ _ _ u x1 x2 x3 x4 x5 x6 x7 y0 (x2 &&& x3) hP hD hS (lv_sub hl [1, 2, 3, 4, 5, 6, 7, 8, 0] rfl) ht
    · have ht := (if_pos g4).symm.trans ht
      refine lv_iload_n hx hb dX2_two_53 rfl (lv_at hl 3 rfl) ?_
      refine lv_goto (tgt := 115) hx hb dX2_two_54 (by decide) ?_
      exact K115 _ _ _ u x1 x2 x3 x4 x5 x6 x7 y0 x2 hP hD hS (lv_sub hl [1, 2, 3, 4, 5, 6, 7, 8, 0] rfl) ht
  have K34 : ∀ (H : Heap) (locs : List Loc) (ls : Array Slot) (u : sD) (x1 : Int32) (x2 : Int32) (x3 : Int32) (x4 : Int32) (x5 : Int32) (x6 : Int32) (y0 : Int32) , va_P D vwCl (clD o aw ar kI u) H → va_D A (clD o aw ar kI u) → va_S A s.heap H locs → lv_has ls 10 [(0, .ref o), (1, .int x1), (2, .int x2), (3, .int x3), (4, .int x4), (5, .int x5), (6, .int x6)] → fnD_two_34 u x1 x2 x3 x4 x5 x6 y0 = some tg → W p l e R s m ([.ref o, .int a1, .int a2, .int a3, .int a4] : List Value).toArray below meth c H locs 0 0 Q (F0 m 34 ls [.int y0]) := by
    intro H locs ls u x1 x2 x3 x4 x5 x6 y0 hP hD hS hl ht
    unfold fnD_two_34 at ht
    refine lv_istore (lv' := [(7, .int y0), (0, .ref o), (1, .int x1), (2, .int x2), (3, .int x3), (4, .int x4), (5, .int x5), (6, .int x6)]) hx hb dX2_two_34 hl (by decide) rfl (fun ls hl => ?_)
    refine lv_iload_n hx hb dX2_two_36 rfl (lv_at hl 2 rfl) ?_
    refine lv_iconst (v := (2 : Int32)) hx hb dX2_two_37 (by decide) ?_
    refine lv_icmp_ne (tgt := 45) hx hb dX2_two_38 (by decide) (fun g3 => ?_) (fun g3 => ?_)
    · have ht := (if_neg g3).symm.trans ht
      refine lv_iload_n hx hb dX2_two_45 rfl (lv_at hl 3 rfl) ?_
      exact K46 _ _ _ u x1 x2 x3 x4 x5 x6 y0 x2 hP hD hS (lv_sub hl [1, 2, 3, 4, 5, 6, 7, 0] rfl) ht
    · have ht := (if_pos g3).symm.trans ht
      refine lv_iload_n hx hb dX2_two_41 rfl (lv_at hl 4 rfl) ?_
      refine lv_goto (tgt := 46) hx hb dX2_two_42 (by decide) ?_
      exact K46 _ _ _ u x1 x2 x3 x4 x5 x6 y0 x3 hP hD hS (lv_sub hl [1, 2, 3, 4, 5, 6, 7, 0] rfl) ht
  have K22 : ∀ (H : Heap) (locs : List Loc) (ls : Array Slot) (u : sD) (x1 : Int32) (x2 : Int32) (x3 : Int32) (x4 : Int32) (x5 : Int32) (y0 : Int32) , va_P D vwCl (clD o aw ar kI u) H → va_D A (clD o aw ar kI u) → va_S A s.heap H locs → lv_has ls 10 [(0, .ref o), (1, .int x1), (2, .int x2), (3, .int x3), (4, .int x4), (5, .int x5)] → fnD_two_22 u x1 x2 x3 x4 x5 y0 = some tg → W p l e R s m ([.ref o, .int a1, .int a2, .int a3, .int a4] : List Value).toArray below meth c H locs 0 0 Q (F0 m 22 ls [.int y0]) := by
    intro H locs ls u x1 x2 x3 x4 x5 y0 hP hD hS hl ht
    unfold fnD_two_22 at ht
    refine lv_istore (lv' := [(6, .int y0), (0, .ref o), (1, .int x1), (2, .int x2), (3, .int x3), (4, .int x4), (5, .int x5)]) hx hb dX2_two_22 hl (by decide) rfl (fun ls hl => ?_)
    refine lv_iload_n hx hb dX2_two_24 rfl (lv_at hl 2 rfl) ?_
    refine lv_iconst (v := (2 : Int32)) hx hb dX2_two_25 (by decide) ?_
    refine lv_icmp_ne (tgt := 33) hx hb dX2_two_26 (by decide) (fun g2 => ?_) (fun g2 => ?_)
    · have ht := (if_neg g2).symm.trans ht
      refine lv_iload_n hx hb dX2_two_33 rfl (lv_at hl 4 rfl) ?_
      exact K34 _ _ _ u x1 x2 x3 x4 x5 y0 x3 hP hD hS (lv_sub hl [1, 2, 3, 4, 5, 6, 0] rfl) ht
    · have ht := (if_pos g2).symm.trans ht
      refine lv_iload_n hx hb dX2_two_29 rfl (lv_at hl 3 rfl) ?_
      refine lv_goto (tgt := 34) hx hb dX2_two_30 (by decide) ?_
      exact K34 _ _ _ u x1 x2 x3 x4 x5 y0 x2 hP hD hS (lv_sub hl [1, 2, 3, 4, 5, 6, 0] rfl) ht
  unfold fnD_two at ht
  obtain ⟨H, hHe⟩ : ∃ H : Heap, H = s.heap := ⟨_, rfl⟩
  have hP : va_P D vwCl (clD o aw ar kI u) H := by rw [hHe]; exact hP
  have hS : va_S A s.heap H [] := by rw [hHe]; exact va_S.rf
  rw [← hHe]
  refine lv_iconst (v := (2 : Int32)) hx hb dX2_two_0 (by decide) ?_
  refine lv_iload hx hb dX2_two_1 (lv_at hl 4 rfl) ?_
  refine lv_imul hx hb dX2_two_3 ?_
  refine lv_iconst (v := (1 : Int32)) hx hb dX2_two_4 (by decide) ?_
  refine lv_isub hx hb dX2_two_5 ?_
  refine lv_istore (lv' := [(5, .int (((2 : Int32) * a4) - (1 : Int32))), (0, .ref o), (1, .int a1), (2, .int a2), (3, .int a3), (4, .int a4)]) hx hb dX2_two_6 hl (by decide) rfl (fun ls hl => ?_)
  refine lv_aload_n hx hb dX2_two_8 rfl (lv_at hl 1 rfl) ?_
  refine va_get (D := D) (ci := 2) (v := .int u.2.2.1) (C := RX2) (T := TX2) (N := 7) hx hb hts hin0 hown hK hP 0 rfl rfl 2 (by decide) (hw w_f_X2_17) (fun _ h9 => h9) rfl dX2_two_9 ?_
  refine lv_iconst (v := (1 : Int32)) hx hb dX2_two_12 (by decide) ?_
  refine lv_iand hx hb dX2_two_13 ?_
  refine lv_if_eq (tgt := 21) hx hb dX2_two_14 (by decide) (fun g1 => ?_) (fun g1 => ?_)
  · have ht := (if_pos g1).symm.trans ht
    refine lv_iconst (v := (0 : Int32)) hx hb dX2_two_21 (by decide) ?_
    exact K22 _ _ _ u a1 a2 a3 a4 (((2 : Int32) * a4) - (1 : Int32)) (0 : Int32) hP hD hS (lv_sub hl [1, 2, 3, 4, 5, 0] rfl) ht
  · have ht := (if_neg g1).symm.trans ht
    refine lv_iconst (v := (1 : Int32)) hx hb dX2_two_17 (by decide) ?_
    refine lv_goto (tgt := 22) hx hb dX2_two_18 (by decide) ?_
    exact K22 _ _ _ u a1 a2 a3 a4 (((2 : Int32) * a4) - (1 : Int32)) (1 : Int32) hP hD hS (lv_sub hl [1, 2, 3, 4, 5, 0] rfl) ht
def fnD_doTwo_155 (u : sD) : Option (Unit × sD) := some ((), u)
def fnD_doTwo_152 (u : sD) (y0 : Int32) (y1 : Int32) (y2 : Int32) : Option (Unit × sD) := (fnD_put u y2 y1 y0).bind (fun r20 => fnD_doTwo_155 r20.2)
def fnD_doTwo_120 (u : sD) (x3 : Int32) (x4 : Int32) (y0 : Int32) (y1 : Int32) (y2 : Int32) (y3 : Int32) : Option (Unit × sD) := (fnD_two u y3 y2 y1 y0).bind (fun r15 => if x4 = (2 : Int32) then (fnD_doTwo_155 r15.2) else (if x4 = (3 : Int32) then (fnD_doTwo_155 r15.2) else (if x4 = (1 : Int32) then (fnD_doTwo_152 r15.2 (1 : Int32) x3 r15.1) else (fnD_doTwo_152 r15.2 (0 : Int32) x3 r15.1))))
def fnD_doTwo_38 (u : sD) (x1 : Int32) (x3 : Int32) (y0 : Int32) : Option (Unit × sD) := (fnD_find u ((x1 >>> ((6 : Int32) &&& 31)) &&& (63 : Int32)) x3).bind (fun r4 => (fnD_read r4.2 x3).bind (fun r6 => if r6.2.2.2.2.1 ≤ 0 then ((fnD_find r6.2 (x1 &&& (63 : Int32)) x3).bind (fun r9 => (fnD_read r9.2 x3).bind (fun r11 => if r11.2.2.2.2.1 ≤ 0 then (if x3 = 0 then (fnD_doTwo_120 (r11.2.1, r11.2.2.1, r11.2.2.2.1, r11.2.2.2.2.1, r11.2.2.2.2.2.1, (r11.2.2.2.2.2.2.1 + (1 : Int32)), r11.2.2.2.2.2.2.2) x3 y0 (32768 : Int32) r11.1 r6.1 y0) else (fnD_doTwo_120 (r11.2.1, r11.2.2.1, r11.2.2.2.1, r11.2.2.2.2.1, r11.2.2.2.2.2.1, (r11.2.2.2.2.2.2.1 + (1 : Int32)), r11.2.2.2.2.2.2.2) x3 y0 (128 : Int32) r11.1 r6.1 y0)) else (some ((), r11.2))))) else (some ((), r6.2))))
def fnD_doTwo_22 (u : sD) (x1 : Int32) (x2 : Int32) (y0 : Int32) : Option (Unit × sD) := if x2 = (14 : Int32) then (fnD_doTwo_38 u x1 y0 (7 : Int32)) else (fnD_doTwo_38 u x1 y0 (x2 &&& (7 : Int32)))
def fnD_doTwo_21 (u : sD) (x1 : Int32) (x2 : Int32) : Option (Unit × sD) := fnD_doTwo_22 u x1 x2 (0 : Int32)
def fnD_doTwo (u : sD) (a1 : Int32) : Option (Unit × sD) := if (a1 >>> ((12 : Int32) &&& 31)) ≤ (8 : Int32) then (fnD_doTwo_21 u a1 (a1 >>> ((12 : Int32) &&& 31))) else (if (14 : Int32) ≤ (a1 >>> ((12 : Int32) &&& 31)) then (fnD_doTwo_21 u a1 (a1 >>> ((12 : Int32) &&& 31))) else (fnD_doTwo_22 u a1 (a1 >>> ((12 : Int32) &&& 31)) (1 : Int32)))
set_option maxRecDepth 100000 in
set_option maxHeartbeats 4000000 in
theorem ctD_doTwo (l : Launch) (D : va_G) (kI : ClassId) (o aw ar : Nat) (sz : Nat) (u : sD) (a1 : Int32) (tg : Unit × sD) (ht : fnD_doTwo u a1 = some tg) : Met l yX2_doTwo (Cond.code yX2_doTwo cX2_doTwo 8 none :: wAll) ({ frames := 3, cells := 0, slots := 0, locals := 70 } : Room) (va_Pc [.ref o, .int a1] (prG D kI (clD o aw ar kI) sz u)) (va_Qv (fun (v : sD) => v = tg.2) (poG D kI (clD o aw ar kI) (va_A (clD o aw ar kI u) sz)) (va_A (clD o aw ar kI u) sz)) 0 0 (va_A (clD o aw ar kI u) sz) := by
  refine mOfW (cc := cX2_doTwo) (maxL := 8) (ret := none) (by decide) rfl ?_
  intro p e s m args below meth c s₁ Q R hQ hR B hml hv
  obtain ⟨rfl, hsz, hP, hK, hD0⟩ := hv
  have hx := B.exec
  have hb := B.bytes
  have hr := B.returns
  have hts := atoms_spec (ws := Cond.code yX2_doTwo cX2_doTwo 8 none :: wAll) B.pre
  have hw : ∀ {w : Cond}, w ∈ wAll → w.before _ s = true := fun {w} h => hts w (List.mem_cons_of_mem _ h)
  have hown : s.vm.findClass RX2 = some m.cls := findClass_of_methodNamed B.named
  have hlocks := B.notSynchronized
  have hRf : 3 ≤ R.frames := by rw [hR]; exact Nat.le_refl _
  have hRl : 70 ≤ R.locals := by rw [hR]; exact Nat.le_refl _
  subst hsz
  have hD := hD0.self (sz := s.heap.size)
  generalize hAe : va_A (clD o aw ar kI u) s.heap.size = A at hD  hQ
  have hA : ∀ q : Nat, s.heap.size ≤ q → A q := fun q h => by rw [← hAe]; exact Or.inr h
  have hl := lv_entry ([.ref o, .int a1]) (n := 8) (Nat.le_of_ble_eq_true rfl)
  rw [lg_entry_eq]
  generalize (lg_sl ([.ref o, .int a1]) ++ List.replicate (8 - (lg_sl ([.ref o, .int a1])).length) Slot.unset).toArray = ls at hl ⊢
  have hl : lv_has ls 8 [(0, .ref o), (1, .int a1)] := hl
  have hin0 : ∀ w ∈ u_ws RX2 TX2 7, w ∈ (Cond.code yX2_doTwo cX2_doTwo 8 none :: wAll) := fun w h => List.mem_cons_of_mem _ (w_flX2 w h)
  have K155 : ∀ (H : Heap) (locs : List Loc) (ls : Array Slot) (u : sD) , va_P D vwCl (clD o aw ar kI u) H → va_D A (clD o aw ar kI u) → va_S A s.heap H locs → lv_has ls 8 [] → fnD_doTwo_155 u  = some tg → W p l e R s m ([.ref o, .int a1] : List Value).toArray below meth c H locs 0 0 Q (F0 m 155 ls []) := by
    intro H locs ls u  hP hD hS hl ht
    unfold fnD_doTwo_155 at ht
    have e9 := Option.some.inj ht
    subst hQ
    exact W.vret hx hb hr (fun t ht9 hW => ⟨⟨u, rfl, pr2 e9, ⟨by rw [ht9]; exact hP, va_K.moved hW.alike hK, hD⟩⟩, hS.F ht9⟩) hS.2.2 dX2_doTwo_155
  have K152 : ∀ (H : Heap) (locs : List Loc) (ls : Array Slot) (u : sD) (y0 : Int32) (y1 : Int32) (y2 : Int32) , va_P D vwCl (clD o aw ar kI u) H → va_D A (clD o aw ar kI u) → va_S A s.heap H locs → lv_has ls 8 [] → fnD_doTwo_152 u y0 y1 y2 = some tg → W p l e R s m ([.ref o, .int a1] : List Value).toArray below meth c H locs 0 0 Q (F0 m 152 ls [.int y0, .int y1, .int y2, .ref o]) := by
    intro H locs ls u y0 y1 y2 hP hD hS hl ht
    unfold fnD_doTwo_152 at ht
    obtain ⟨r20, h21, ht⟩ := ob_some ht
    refine kG_v (cl := clD o aw ar kI) (u := u) (va_runV (As := [.int y2, .int y1, .int y0]) (rest := []) ⟨hx, hb, hml, hown, hts⟩ (ctD_put l D kI o aw ar H.size u y2 y1 y0 r20 h21) (cwV 3 hts (gV w_m_X2_67 w_im_yX2_put w_sel_yX2_put w_init_MicroMillModel w_co_yX2_put) rfl rfl rfl (by decide +kernel) ⟨Nat.le_trans (Nat.le_of_ble_eq_true rfl) hRf, Nat.le_trans (Nat.le_of_ble_eq_true rfl) hRl⟩) (preG (cl := clD o aw ar kI) (u := u) (N := 7) (ci := 2) hK hP (hD.weaken (fun _ _ _ _ => trivial)) rfl rfl _) rfl rfl hl.1 rfl (lv_room (Nat.le_of_ble_eq_true rfl)) dX2_doTwo_152 ⟨Nat.zero_le _, Nat.zero_le _⟩) hD hS hA (fun H locs hP hD hS => ?_)
    exact K155 _ _ _ r20.2 hP hD hS (lv_sub hl [] rfl) ht
  have K120 : ∀ (H : Heap) (locs : List Loc) (ls : Array Slot) (u : sD) (x3 : Int32) (x4 : Int32) (y0 : Int32) (y1 : Int32) (y2 : Int32) (y3 : Int32) , va_P D vwCl (clD o aw ar kI u) H → va_D A (clD o aw ar kI u) → va_S A s.heap H locs → lv_has ls 8 [(0, .ref o), (3, .int x3), (4, .int x4)] → fnD_doTwo_120 u x3 x4 y0 y1 y2 y3 = some tg → W p l e R s m ([.ref o, .int a1] : List Value).toArray below meth c H locs 0 0 Q (F0 m 120 ls [.int y0, .int y1, .int y2, .int y3, .ref o]) := by
    intro H locs ls u x3 x4 y0 y1 y2 y3 hP hD hS hl ht
    unfold fnD_doTwo_120 at ht
    obtain ⟨r15, h16, ht⟩ := ob_some ht
    refine kG_i (cl := clD o aw ar kI) (u := u) (va_runV (As := [.int y3, .int y2, .int y1, .int y0]) (rest := []) ⟨hx, hb, hml, hown, hts⟩ (ctD_two l D kI o aw ar H.size u y3 y2 y1 y0 r15 h16) (cwV 4 hts (gV w_m_X2_63 w_im_yX2_two w_sel_yX2_two w_init_MicroMillModel w_co_yX2_two) rfl rfl rfl (by decide +kernel) ⟨Nat.le_trans (Nat.le_of_ble_eq_true rfl) hRf, Nat.le_trans (Nat.le_of_ble_eq_true rfl) hRl⟩) (preG (cl := clD o aw ar kI) (u := u) (N := 7) (ci := 2) hK hP (hD.weaken (fun _ _ _ _ => trivial)) rfl rfl _) rfl rfl hl.1 rfl (lv_room (Nat.le_of_ble_eq_true rfl)) dX2_doTwo_120 ⟨Nat.zero_le _, Nat.zero_le _⟩) hD hS hA (fun H locs hP hD hS => ?_)
    refine lv_istore (lv' := [(7, .int r15.1), (0, .ref o), (3, .int x3), (4, .int x4)]) hx hb dX2_doTwo_123 hl (by decide) rfl (fun ls hl => ?_)
    refine lv_iload hx hb dX2_doTwo_125 (lv_at hl 3 rfl) ?_
    refine lv_iconst (v := (2 : Int32)) hx hb dX2_doTwo_127 (by decide) ?_
    refine lv_icmp_eq (tgt := 155) hx hb dX2_doTwo_128 (by decide) (fun g17 => ?_) (fun g17 => ?_)
    · have ht := (if_pos g17).symm.trans ht
      exact K155 _ _ _ r15.2 hP hD hS (lv_sub hl [] rfl) ht
    · have ht := (if_neg g17).symm.trans ht
      refine lv_iload hx hb dX2_doTwo_131 (lv_at hl 3 rfl) ?_
      refine lv_iconst (v := (3 : Int32)) hx hb dX2_doTwo_133 (by decide) ?_
      refine lv_icmp_eq (tgt := 155) hx hb dX2_doTwo_134 (by decide) (fun g18 => ?_) (fun g18 => ?_)
      · have ht := (if_pos g18).symm.trans ht
        exact K155 _ _ _ r15.2 hP hD hS (lv_sub hl [] rfl) ht
      · have ht := (if_neg g18).symm.trans ht
        refine lv_aload_n hx hb dX2_doTwo_137 rfl (lv_at hl 1 rfl) ?_
        refine lv_iload hx hb dX2_doTwo_138 (lv_at hl 0 rfl) ?_
        refine lv_iload_n hx hb dX2_doTwo_140 rfl (lv_at hl 2 rfl) ?_
        refine lv_iload hx hb dX2_doTwo_141 (lv_at hl 3 rfl) ?_
        refine lv_iconst (v := (1 : Int32)) hx hb dX2_doTwo_143 (by decide) ?_
        refine lv_icmp_ne (tgt := 151) hx hb dX2_doTwo_144 (by decide) (fun g19 => ?_) (fun g19 => ?_)
        · have ht := (if_neg g19).symm.trans ht
          refine lv_iconst (v := (0 : Int32)) hx hb dX2_doTwo_151 (by decide) ?_
          exact K152 _ _ _ r15.2 (0 : Int32) x3 r15.1 hP hD hS (lv_sub hl [] rfl) ht
        · have ht := (if_pos g19).symm.trans ht
          refine lv_iconst (v := (1 : Int32)) hx hb dX2_doTwo_147 (by decide) ?_
          refine lv_goto (tgt := 152) hx hb dX2_doTwo_148 (by decide) ?_
          exact K152 _ _ _ r15.2 (1 : Int32) x3 r15.1 hP hD hS (lv_sub hl [] rfl) ht
  have K38 : ∀ (H : Heap) (locs : List Loc) (ls : Array Slot) (u : sD) (x1 : Int32) (x3 : Int32) (y0 : Int32) , va_P D vwCl (clD o aw ar kI u) H → va_D A (clD o aw ar kI u) → va_S A s.heap H locs → lv_has ls 8 [(0, .ref o), (1, .int x1), (3, .int x3)] → fnD_doTwo_38 u x1 x3 y0 = some tg → W p l e R s m ([.ref o, .int a1] : List Value).toArray below meth c H locs 0 0 Q (F0 m 38 ls [.int y0]) := by
    intro H locs ls u x1 x3 y0 hP hD hS hl ht
    unfold fnD_doTwo_38 at ht
    refine lv_istore (lv' := [(4, .int y0), (0, .ref o), (1, .int x1), (3, .int x3)]) hx hb dX2_doTwo_38 hl (by decide) rfl (fun ls hl => ?_)
    refine lv_aload_n hx hb dX2_doTwo_40 rfl (lv_at hl 1 rfl) ?_
    refine lv_iload_n hx hb dX2_doTwo_41 rfl (lv_at hl 2 rfl) ?_
    refine lv_bipush (v := (6 : Int32)) hx hb dX2_doTwo_42 (by decide) ?_
    refine lv_ishr hx hb dX2_doTwo_44 ?_
    refine lv_bipush (v := (63 : Int32)) hx hb dX2_doTwo_45 (by decide) ?_
    refine lv_iand hx hb dX2_doTwo_47 ?_
    refine lv_iload_n hx hb dX2_doTwo_48 rfl (lv_at hl 3 rfl) ?_
    obtain ⟨r4, h5, ht⟩ := ob_some ht
    refine kG_v (cl := clD o aw ar kI) (u := u) (va_runV (As := [.int ((x1 >>> ((6 : Int32) &&& 31)) &&& (63 : Int32)), .int x3]) (rest := []) ⟨hx, hb, hml, hown, hts⟩ (ctD_find l D kI o aw ar H.size u ((x1 >>> ((6 : Int32) &&& 31)) &&& (63 : Int32)) x3 r4 h5) (cwV 2 hts (gV w_m_X2_54 w_im_yX2_find w_sel_yX2_find w_init_MicroMillModel w_co_yX2_find) rfl rfl rfl (by decide +kernel) ⟨Nat.le_trans (Nat.le_of_ble_eq_true rfl) hRf, Nat.le_trans (Nat.le_of_ble_eq_true rfl) hRl⟩) (preG (cl := clD o aw ar kI) (u := u) (N := 7) (ci := 2) hK hP (hD.weaken (fun _ _ _ _ => trivial)) rfl rfl _) rfl rfl hl.1 rfl (lv_room (Nat.le_of_ble_eq_true rfl)) dX2_doTwo_49 ⟨Nat.zero_le _, Nat.zero_le _⟩) hD hS hA (fun H locs hP hD hS => ?_)
    refine lv_aload_n hx hb dX2_doTwo_52 rfl (lv_at hl 1 rfl) ?_
    refine lv_iload_n hx hb dX2_doTwo_53 rfl (lv_at hl 3 rfl) ?_
    obtain ⟨r6, h7, ht⟩ := ob_some ht
    refine kG_i (cl := clD o aw ar kI) (u := r4.2) (va_runV (As := [.int x3]) (rest := []) ⟨hx, hb, hml, hown, hts⟩ (ctD_read l D kI o aw ar H.size r4.2 x3 r6 h7) (cwV 1 hts (gV w_m_X2_58 w_im_yX2_read w_sel_yX2_read w_init_MicroMillModel w_co_yX2_read) rfl rfl rfl (by decide +kernel) ⟨Nat.le_trans (Nat.le_of_ble_eq_true rfl) hRf, Nat.le_trans (Nat.le_of_ble_eq_true rfl) hRl⟩) (preG (cl := clD o aw ar kI) (u := r4.2) (N := 7) (ci := 2) hK hP (hD.weaken (fun _ _ _ _ => trivial)) rfl rfl _) rfl rfl hl.1 rfl (lv_room (Nat.le_of_ble_eq_true rfl)) dX2_doTwo_54 ⟨Nat.zero_le _, Nat.zero_le _⟩) hD hS hA (fun H locs hP hD hS => ?_)
    refine lv_istore (lv' := [(5, .int r6.1), (4, .int y0), (0, .ref o), (1, .int x1), (3, .int x3)]) hx hb dX2_doTwo_57 hl (by decide) rfl (fun ls hl => ?_)
    refine lv_aload_n hx hb dX2_doTwo_59 rfl (lv_at hl 2 rfl) ?_
    refine va_get (D := D) (ci := 2) (v := .int r6.2.2.2.2.1) (C := RX2) (T := TX2) (N := 7) hx hb hts hin0 hown hK hP 0 rfl rfl 3 (by decide) (hw w_f_X2_25) (fun _ h9 => h9) rfl dX2_doTwo_60 ?_
    refine lv_if_le (tgt := 67) hx hb dX2_doTwo_63 (by decide) (fun g8 => ?_) (fun g8 => ?_)
    · have ht := (if_pos g8).symm.trans ht
      refine lv_aload_n hx hb dX2_doTwo_67 rfl (lv_at hl 2 rfl) ?_
      refine lv_iload_n hx hb dX2_doTwo_68 rfl (lv_at hl 3 rfl) ?_
      refine lv_bipush (v := (63 : Int32)) hx hb dX2_doTwo_69 (by decide) ?_
      refine lv_iand hx hb dX2_doTwo_71 ?_
      refine lv_iload_n hx hb dX2_doTwo_72 rfl (lv_at hl 4 rfl) ?_
      obtain ⟨r9, h10, ht⟩ := ob_some ht
      refine kG_v (cl := clD o aw ar kI) (u := r6.2) (va_runV (As := [.int (x1 &&& (63 : Int32)), .int x3]) (rest := []) ⟨hx, hb, hml, hown, hts⟩ (ctD_find l D kI o aw ar H.size r6.2 (x1 &&& (63 : Int32)) x3 r9 h10) (cwV 2 hts (gV w_m_X2_54 w_im_yX2_find w_sel_yX2_find w_init_MicroMillModel w_co_yX2_find) rfl rfl rfl (by decide +kernel) ⟨Nat.le_trans (Nat.le_of_ble_eq_true rfl) hRf, Nat.le_trans (Nat.le_of_ble_eq_true rfl) hRl⟩) (preG (cl := clD o aw ar kI) (u := r6.2) (N := 7) (ci := 2) hK hP (hD.weaken (fun _ _ _ _ => trivial)) rfl rfl _) rfl rfl hl.1 rfl (lv_room (Nat.le_of_ble_eq_true rfl)) dX2_doTwo_73 ⟨Nat.zero_le _, Nat.zero_le _⟩) hD hS hA (fun H locs hP hD hS => ?_)
      refine lv_aload_n hx hb dX2_doTwo_76 rfl (lv_at hl 2 rfl) ?_
      refine lv_iload_n hx hb dX2_doTwo_77 rfl (lv_at hl 4 rfl) ?_
      obtain ⟨r11, h12, ht⟩ := ob_some ht
      refine kG_i (cl := clD o aw ar kI) (u := r9.2) (va_runV (As := [.int x3]) (rest := []) ⟨hx, hb, hml, hown, hts⟩ (ctD_read l D kI o aw ar H.size r9.2 x3 r11 h12) (cwV 1 hts (gV w_m_X2_58 w_im_yX2_read w_sel_yX2_read w_init_MicroMillModel w_co_yX2_read) rfl rfl rfl (by decide +kernel) ⟨Nat.le_trans (Nat.le_of_ble_eq_true rfl) hRf, Nat.le_trans (Nat.le_of_ble_eq_true rfl) hRl⟩) (preG (cl := clD o aw ar kI) (u := r9.2) (N := 7) (ci := 2) hK hP (hD.weaken (fun _ _ _ _ => trivial)) rfl rfl _) rfl rfl hl.1 rfl (lv_room (Nat.le_of_ble_eq_true rfl)) dX2_doTwo_78 ⟨Nat.zero_le _, Nat.zero_le _⟩) hD hS hA (fun H locs hP hD hS => ?_)
      refine lv_istore (lv' := [(6, .int r11.1), (5, .int r6.1), (4, .int y0), (0, .ref o), (1, .int x1), (3, .int x3)]) hx hb dX2_doTwo_81 hl (by decide) rfl (fun ls hl => ?_)
      refine lv_aload_n hx hb dX2_doTwo_83 rfl (lv_at hl 3 rfl) ?_
      refine va_get (D := D) (ci := 2) (v := .int r11.2.2.2.2.1) (C := RX2) (T := TX2) (N := 7) hx hb hts hin0 hown hK hP 0 rfl rfl 3 (by decide) (hw w_f_X2_25) (fun _ h9 => h9) rfl dX2_doTwo_84 ?_
      refine lv_if_le (tgt := 91) hx hb dX2_doTwo_87 (by decide) (fun g13 => ?_) (fun g13 => ?_)
      · have ht := (if_pos g13).symm.trans ht
        refine lv_aload_n hx hb dX2_doTwo_91 rfl (lv_at hl 3 rfl) ?_
        refine lv_dup hx hb dX2_doTwo_92 rfl ?_
        refine va_get (D := D) (ci := 2) (v := .int r11.2.2.2.2.2.2.1) (C := RX2) (T := TX2) (N := 7) hx hb hts hin0 hown hK hP 0 rfl rfl 5 (by decide) (hw w_f_X2_39) (fun _ h9 => h9) rfl dX2_doTwo_93 ?_
        refine lv_iconst (v := (1 : Int32)) hx hb dX2_doTwo_96 (by decide) ?_
        refine lv_iadd hx hb dX2_doTwo_97 ?_
        refine va_put (D := D) (ci := 2) (v := .int (r11.2.2.2.2.2.2.1 + (1 : Int32))) (ty := .int) (C := RX2) (T := TX2) (N := 7) hx hb hts hin0 tyX2 tyX2_ok nmX2 hown hK hP hD hS 0 rfl rfl 5 (by decide) (hw w_f_X2_39) (fun _ h9 => h9) rfl (by decide +kernel) rfl rfl (Nat.le_of_ble_eq_true rfl) dX2_doTwo_98 (fun H locs hP hD hS => ?_)
        have hP : va_P D vwCl (clD o aw ar kI (r11.2.1, r11.2.2.1, r11.2.2.2.1, r11.2.2.2.2.1, r11.2.2.2.2.2.1, (r11.2.2.2.2.2.2.1 + (1 : Int32)), r11.2.2.2.2.2.2.2)) H := hP
        have hD : va_D A (clD o aw ar kI (r11.2.1, r11.2.2.1, r11.2.2.2.1, r11.2.2.2.2.1, r11.2.2.2.2.2.1, (r11.2.2.2.2.2.2.1 + (1 : Int32)), r11.2.2.2.2.2.2.2)) := hD
        refine lv_aload_n hx hb dX2_doTwo_101 rfl (lv_at hl 3 rfl) ?_
        refine lv_iload hx hb dX2_doTwo_102 (lv_at hl 2 rfl) ?_
        refine lv_iload hx hb dX2_doTwo_104 (lv_at hl 1 rfl) ?_
        refine lv_iload hx hb dX2_doTwo_106 (lv_at hl 0 rfl) ?_
        refine lv_iload_n hx hb dX2_doTwo_108 rfl (lv_at hl 5 rfl) ?_
        refine lv_if_eq (tgt := 118) hx hb dX2_doTwo_109 (by decide) (fun g14 => ?_) (fun g14 => ?_)
        · have ht := (if_pos g14).symm.trans ht
          refine lv_ldc (v := (32768 : Int32)) hx hb hown (hw w_k_X2_62) dX2_doTwo_118 ?_
          exact K120 _ _ _ (r11.2.1, r11.2.2.1, r11.2.2.2.1, r11.2.2.2.2.1, r11.2.2.2.2.2.1, (r11.2.2.2.2.2.2.1 + (1 : Int32)), r11.2.2.2.2.2.2.2) x3 y0 (32768 : Int32) r11.1 r6.1 y0 hP hD hS (lv_sub hl [3, 5, 2] rfl) ht
        · have ht := (if_neg g14).symm.trans ht
          refine lv_sipush (v := (128 : Int32)) hx hb dX2_doTwo_112 (by decide) ?_
          refine lv_goto (tgt := 120) hx hb dX2_doTwo_115 (by decide) ?_
          exact K120 _ _ _ (r11.2.1, r11.2.2.1, r11.2.2.2.1, r11.2.2.2.2.1, r11.2.2.2.2.2.1, (r11.2.2.2.2.2.2.1 + (1 : Int32)), r11.2.2.2.2.2.2.2) x3 y0 (128 : Int32) r11.1 r6.1 y0 hP hD hS (lv_sub hl [3, 5, 2] rfl) ht
      · have ht := (if_neg g13).symm.trans ht
        have e9 := Option.some.inj ht
        subst hQ
        exact W.vret hx hb hr (fun t ht9 hW => ⟨⟨r11.2, rfl, pr2 e9, ⟨by rw [ht9]; exact hP, va_K.moved hW.alike hK, hD⟩⟩, hS.F ht9⟩) hS.2.2 dX2_doTwo_90
    · have ht := (if_neg g8).symm.trans ht
      have e9 := Option.some.inj ht
      subst hQ
      exact W.vret hx hb hr (fun t ht9 hW => ⟨⟨r6.2, rfl, pr2 e9, ⟨by rw [ht9]; exact hP, va_K.moved hW.alike hK, hD⟩⟩, hS.F ht9⟩) hS.2.2 dX2_doTwo_66
  have K22 : ∀ (H : Heap) (locs : List Loc) (ls : Array Slot) (u : sD) (x1 : Int32) (x2 : Int32) (y0 : Int32) , va_P D vwCl (clD o aw ar kI u) H → va_D A (clD o aw ar kI u) → va_S A s.heap H locs → lv_has ls 8 [(0, .ref o), (1, .int x1), (2, .int x2)] → fnD_doTwo_22 u x1 x2 y0 = some tg → W p l e R s m ([.ref o, .int a1] : List Value).toArray below meth c H locs 0 0 Q (F0 m 22 ls [.int y0]) := by
    intro H locs ls u x1 x2 y0 hP hD hS hl ht
    unfold fnD_doTwo_22 at ht
    refine lv_istore_n (lv' := [(3, .int y0), (0, .ref o), (1, .int x1), (2, .int x2)]) hx hb dX2_doTwo_22 rfl hl (by decide) rfl (fun ls hl => ?_)
    refine lv_iload_n hx hb dX2_doTwo_23 rfl (lv_at hl 3 rfl) ?_
    refine lv_bipush (v := (14 : Int32)) hx hb dX2_doTwo_24 (by decide) ?_
    refine lv_icmp_ne (tgt := 34) hx hb dX2_doTwo_26 (by decide) (fun g3 => ?_) (fun g3 => ?_)
    · have ht := (if_neg g3).symm.trans ht
      refine lv_iload_n hx hb dX2_doTwo_34 rfl (lv_at hl 3 rfl) ?_
      refine lv_bipush (v := (7 : Int32)) hx hb dX2_doTwo_35 (by decide) ?_
      refine lv_iand hx hb dX2_doTwo_37 ?_
      exact K38 _ _ _ u x1 y0 (x2 &&& (7 : Int32)) hP hD hS (lv_sub hl [1, 2, 0] rfl) ht
    · have ht := (if_pos g3).symm.trans ht
      refine lv_bipush (v := (7 : Int32)) hx hb dX2_doTwo_29 (by decide) ?_
      refine lv_goto (tgt := 38) hx hb dX2_doTwo_31 (by decide) ?_
      exact K38 _ _ _ u x1 y0 (7 : Int32) hP hD hS (lv_sub hl [1, 2, 0] rfl) ht
  have K21 : ∀ (H : Heap) (locs : List Loc) (ls : Array Slot) (u : sD) (x1 : Int32) (x2 : Int32) , va_P D vwCl (clD o aw ar kI u) H → va_D A (clD o aw ar kI u) → va_S A s.heap H locs → lv_has ls 8 [(0, .ref o), (1, .int x1), (2, .int x2)] → fnD_doTwo_21 u x1 x2 = some tg → W p l e R s m ([.ref o, .int a1] : List Value).toArray below meth c H locs 0 0 Q (F0 m 21 ls []) := by
    intro H locs ls u x1 x2 hP hD hS hl ht
    unfold fnD_doTwo_21 at ht
    refine lv_iconst (v := (0 : Int32)) hx hb dX2_doTwo_21 (by decide) ?_
    exact K22 _ _ _ u x1 x2 (0 : Int32) hP hD hS (lv_sub hl [0, 1, 2] rfl) ht
  unfold fnD_doTwo at ht
  obtain ⟨H, hHe⟩ : ∃ H : Heap, H = s.heap := ⟨_, rfl⟩
  have hP : va_P D vwCl (clD o aw ar kI u) H := by rw [hHe]; exact hP
  have hS : va_S A s.heap H [] := by rw [hHe]; exact va_S.rf
  rw [← hHe]
  refine lv_iload_n hx hb dX2_doTwo_0 rfl (lv_at hl 1 rfl) ?_
  refine lv_bipush (v := (12 : Int32)) hx hb dX2_doTwo_1 (by decide) ?_
  refine lv_ishr hx hb dX2_doTwo_3 ?_
  refine lv_istore_n (lv' := [(2, .int (a1 >>> ((12 : Int32) &&& 31))), (0, .ref o), (1, .int a1)]) hx hb dX2_doTwo_4 rfl hl (by decide) rfl (fun ls hl => ?_)
  refine lv_iload_n hx hb dX2_doTwo_5 rfl (lv_at hl 0 rfl) ?_
  refine lv_bipush (v := (8 : Int32)) hx hb dX2_doTwo_6 (by decide) ?_
  refine lv_icmp_le (tgt := 21) hx hb dX2_doTwo_8 (by decide) (fun g1 => ?_) (fun g1 => ?_)
  · have ht := (if_pos g1).symm.trans ht
    exact K21 _ _ _ u a1 (a1 >>> ((12 : Int32) &&& 31)) hP hD hS (lv_sub hl [1, 2, 0] rfl) ht
  · have ht := (if_neg g1).symm.trans ht
    refine lv_iload_n hx hb dX2_doTwo_11 rfl (lv_at hl 0 rfl) ?_
    refine lv_bipush (v := (14 : Int32)) hx hb dX2_doTwo_12 (by decide) ?_
    refine lv_icmp_ge (tgt := 21) hx hb dX2_doTwo_14 (by decide) (fun g2 => ?_) (fun g2 => ?_)
    · have ht := (if_pos g2).symm.trans ht
      exact K21 _ _ _ u a1 (a1 >>> ((12 : Int32) &&& 31)) hP hD hS (lv_sub hl [1, 2, 0] rfl) ht
    · have ht := (if_neg g2).symm.trans ht
      refine lv_iconst (v := (1 : Int32)) hx hb dX2_doTwo_17 (by decide) ?_
      refine lv_goto (tgt := 22) hx hb dX2_doTwo_18 (by decide) ?_
      exact K22 _ _ _ u a1 (a1 >>> ((12 : Int32) &&& 31)) (1 : Int32) hP hD hS (lv_sub hl [1, 2, 0] rfl) ht
def fnD_flags (u : sD) : Option (Int32 × sD) := some (u.2.2.1, u)
set_option maxRecDepth 100000 in
set_option maxHeartbeats 4000000 in
theorem ctD_flags (l : Launch) (D : va_G) (kI : ClassId) (o aw ar : Nat) (sz : Nat) (u : sD) (tg : Int32 × sD) (ht : fnD_flags u  = some tg) : Met l yX2_flags (Cond.code yX2_flags cX2_flags 1 (some .int) :: wAll) ({ frames := 0, cells := 0, slots := 0, locals := 0 } : Room) (va_Pc [.ref o] (prG D kI (clD o aw ar kI) sz u)) (va_Qi (fun (x : Int32) (v : sD) => x = tg.1 ∧ v = tg.2) (poG D kI (clD o aw ar kI) (va_A (clD o aw ar kI u) sz)) (va_A (clD o aw ar kI u) sz)) 0 0 (va_A (clD o aw ar kI u) sz) := by
  refine mOfW (cc := cX2_flags) (maxL := 1) (ret := (some .int)) (by decide) rfl ?_
  intro p e s m args below meth c s₁ Q R hQ hR B hml hv
  obtain ⟨rfl, hsz, hP, hK, hD0⟩ := hv
  have hx := B.exec
  have hb := B.bytes
  have hr := B.returns
  have hts := atoms_spec (ws := Cond.code yX2_flags cX2_flags 1 (some .int) :: wAll) B.pre
  have hw : ∀ {w : Cond}, w ∈ wAll → w.before _ s = true := fun {w} h => hts w (List.mem_cons_of_mem _ h)
  have hown : s.vm.findClass RX2 = some m.cls := findClass_of_methodNamed B.named
  have hlocks := B.notSynchronized
  have hRf : 0 ≤ R.frames := by rw [hR]; exact Nat.le_refl _
  have hRl : 0 ≤ R.locals := by rw [hR]; exact Nat.le_refl _
  subst hsz
  have hD := hD0.self (sz := s.heap.size)
  generalize hAe : va_A (clD o aw ar kI u) s.heap.size = A at hD  hQ
  have hA : ∀ q : Nat, s.heap.size ≤ q → A q := fun q h => by rw [← hAe]; exact Or.inr h
  have hl := lv_entry ([.ref o]) (n := 1) (Nat.le_of_ble_eq_true rfl)
  rw [lg_entry_eq]
  generalize (lg_sl ([.ref o]) ++ List.replicate (1 - (lg_sl ([.ref o])).length) Slot.unset).toArray = ls at hl ⊢
  have hl : lv_has ls 1 [(0, .ref o)] := hl
  have hin0 : ∀ w ∈ u_ws RX2 TX2 7, w ∈ (Cond.code yX2_flags cX2_flags 1 (some .int) :: wAll) := fun w h => List.mem_cons_of_mem _ (w_flX2 w h)
  unfold fnD_flags at ht
  obtain ⟨H, hHe⟩ : ∃ H : Heap, H = s.heap := ⟨_, rfl⟩
  have hP : va_P D vwCl (clD o aw ar kI u) H := by rw [hHe]; exact hP
  have hS : va_S A s.heap H [] := by rw [hHe]; exact va_S.rf
  rw [← hHe]
  refine lv_aload_n hx hb dX2_flags_0 rfl (lv_at hl 0 rfl) ?_
  refine va_get (D := D) (ci := 2) (v := .int u.2.2.1) (C := RX2) (T := TX2) (N := 7) hx hb hts hin0 hown hK hP 0 rfl rfl 2 (by decide) (hw w_f_X2_17) (fun _ h9 => h9) rfl dX2_flags_1 ?_
  have e9 := Option.some.inj ht
  subst hQ
  exact W.iret (v := u.2.2.1) hx hb hr (fun t ht9 hW => ⟨⟨u.2.2.1, u, rfl, ⟨pr1 e9, pr2 e9⟩, ⟨by rw [ht9]; exact hP, va_K.moved hW.alike hK, hD⟩⟩, hS.F ht9⟩) hS.2.2 dX2_flags_4
def fnD_go_12 (u : sD) (y0 : Int32) : Option (Int32 × sD) := if bok y0 then (some (y0, (u.1, u.2.1, u.2.2.1, (0 : Int32), u.2.2.2.2.1, u.2.2.2.2.2.1, u.2.2.2.2.2.2))) else none
def fnD_go (u : sD) : Option (Int32 × sD) := if u.2.2.2.1 ≤ 0 then (fnD_go_12 u (0 : Int32)) else (fnD_go_12 u (1 : Int32))
set_option maxRecDepth 100000 in
set_option maxHeartbeats 4000000 in
theorem ctD_go (l : Launch) (D : va_G) (kI : ClassId) (o aw ar : Nat) (sz : Nat) (u : sD) (tg : Int32 × sD) (ht : fnD_go u  = some tg) : Met l yX2_go (Cond.code yX2_go cX2_go 2 (some .boolean) :: wAll) ({ frames := 0, cells := 0, slots := 0, locals := 0 } : Room) (va_Pc [.ref o] (prG D kI (clD o aw ar kI) sz u)) (va_Qi (fun (x : Int32) (v : sD) => x = tg.1 ∧ v = tg.2) (poG D kI (clD o aw ar kI) (va_A (clD o aw ar kI u) sz)) (va_A (clD o aw ar kI u) sz)) 0 0 (va_A (clD o aw ar kI u) sz) := by
  refine mOfW (cc := cX2_go) (maxL := 2) (ret := (some .boolean)) (by decide) rfl ?_
  intro p e s m args below meth c s₁ Q R hQ hR B hml hv
  obtain ⟨rfl, hsz, hP, hK, hD0⟩ := hv
  have hx := B.exec
  have hb := B.bytes
  have hr := B.returns
  have hts := atoms_spec (ws := Cond.code yX2_go cX2_go 2 (some .boolean) :: wAll) B.pre
  have hw : ∀ {w : Cond}, w ∈ wAll → w.before _ s = true := fun {w} h => hts w (List.mem_cons_of_mem _ h)
  have hown : s.vm.findClass RX2 = some m.cls := findClass_of_methodNamed B.named
  have hlocks := B.notSynchronized
  have hRf : 0 ≤ R.frames := by rw [hR]; exact Nat.le_refl _
  have hRl : 0 ≤ R.locals := by rw [hR]; exact Nat.le_refl _
  subst hsz
  have hD := hD0.self (sz := s.heap.size)
  generalize hAe : va_A (clD o aw ar kI u) s.heap.size = A at hD  hQ
  have hA : ∀ q : Nat, s.heap.size ≤ q → A q := fun q h => by rw [← hAe]; exact Or.inr h
  have hl := lv_entry ([.ref o]) (n := 2) (Nat.le_of_ble_eq_true rfl)
  rw [lg_entry_eq]
  generalize (lg_sl ([.ref o]) ++ List.replicate (2 - (lg_sl ([.ref o])).length) Slot.unset).toArray = ls at hl ⊢
  have hl : lv_has ls 2 [(0, .ref o)] := hl
  have hin0 : ∀ w ∈ u_ws RX2 TX2 7, w ∈ (Cond.code yX2_go cX2_go 2 (some .boolean) :: wAll) := fun w h => List.mem_cons_of_mem _ (w_flX2 w h)
  have K12 : ∀ (H : Heap) (locs : List Loc) (ls : Array Slot) (u : sD) (y0 : Int32) , va_P D vwCl (clD o aw ar kI u) H → va_D A (clD o aw ar kI u) → va_S A s.heap H locs → lv_has ls 2 [(0, .ref o)] → fnD_go_12 u y0 = some tg → W p l e R s m ([.ref o] : List Value).toArray below meth c H locs 0 0 Q (F0 m 12 ls [.int y0]) := by
    intro H locs ls u y0 hP hD hS hl ht
    unfold fnD_go_12 at ht
    refine lv_istore_n (lv' := [(1, .int y0), (0, .ref o)]) hx hb dX2_go_12 rfl hl (by decide) rfl (fun ls hl => ?_)
    refine lv_aload_n hx hb dX2_go_13 rfl (lv_at hl 1 rfl) ?_
    refine lv_iconst (v := (0 : Int32)) hx hb dX2_go_14 (by decide) ?_
    refine va_put (D := D) (ci := 2) (v := .int (0 : Int32)) (ty := .int) (C := RX2) (T := TX2) (N := 7) hx hb hts hin0 tyX2 tyX2_ok nmX2 hown hK hP hD hS 0 rfl rfl 3 (by decide) (hw w_f_X2_25) (fun _ h9 => h9) rfl (by decide +kernel) rfl rfl (Nat.le_of_ble_eq_true rfl) dX2_go_15 (fun H locs hP hD hS => ?_)
    have hP : va_P D vwCl (clD o aw ar kI (u.1, u.2.1, u.2.2.1, (0 : Int32), u.2.2.2.2.1, u.2.2.2.2.2.1, u.2.2.2.2.2.2)) H := hP
    have hD : va_D A (clD o aw ar kI (u.1, u.2.1, u.2.2.1, (0 : Int32), u.2.2.2.2.1, u.2.2.2.2.2.1, u.2.2.2.2.2.2)) := hD
    refine lv_iload_n hx hb dX2_go_18 rfl (lv_at hl 0 rfl) ?_
    obtain ⟨b2, ht⟩ := oi_some ht
    have e9 := Option.some.inj ht
    subst hQ
    exact W.zret (ty := .boolean) (v := y0) hx hb hr (bok_n b2) (fun t ht9 hW => ⟨⟨y0, (u.1, u.2.1, u.2.2.1, (0 : Int32), u.2.2.2.2.1, u.2.2.2.2.2.1, u.2.2.2.2.2.2), rfl, ⟨pr1 e9, pr2 e9⟩, ⟨by rw [ht9]; exact hP, va_K.moved hW.alike hK, hD⟩⟩, hS.F ht9⟩) hS.2.2 dX2_go_19
  unfold fnD_go at ht
  obtain ⟨H, hHe⟩ : ∃ H : Heap, H = s.heap := ⟨_, rfl⟩
  have hP : va_P D vwCl (clD o aw ar kI u) H := by rw [hHe]; exact hP
  have hS : va_S A s.heap H [] := by rw [hHe]; exact va_S.rf
  rw [← hHe]
  refine lv_aload_n hx hb dX2_go_0 rfl (lv_at hl 0 rfl) ?_
  refine va_get (D := D) (ci := 2) (v := .int u.2.2.2.1) (C := RX2) (T := TX2) (N := 7) hx hb hts hin0 hown hK hP 0 rfl rfl 3 (by decide) (hw w_f_X2_25) (fun _ h9 => h9) rfl dX2_go_1 ?_
  refine lv_if_le (tgt := 11) hx hb dX2_go_4 (by decide) (fun g1 => ?_) (fun g1 => ?_)
  · have ht := (if_pos g1).symm.trans ht
    refine lv_iconst (v := (0 : Int32)) hx hb dX2_go_11 (by decide) ?_
    exact K12 _ _ _ u (0 : Int32) hP hD hS (lv_sub hl [0] rfl) ht
  · have ht := (if_neg g1).symm.trans ht
    refine lv_iconst (v := (1 : Int32)) hx hb dX2_go_7 (by decide) ?_
    refine lv_goto (tgt := 12) hx hb dX2_go_8 (by decide) ?_
    exact K12 _ _ _ u (1 : Int32) hP hD hS (lv_sub hl [0] rfl) ht
def fnD_peek_29 (u : sD) (y0 : Int32) : Option (Int32 × sD) := some (y0, u)
def fnD_peek_17 (u : sD) : Option (Int32 × sD) := fnD_peek_29 u (-1 : Int32)
def fnD_peek (u : sD) (a1 : Int32) : Option (Int32 × sD) := if a1 < 0 then (fnD_peek_17 u) else (if (4096 : Int32) ≤ a1 then (fnD_peek_17 u) else (if (a1 - a1 / (2 : Int32) * (2 : Int32)) = 0 then (if ixk (a1 / (2 : Int32)) 2048 then (fnD_peek_29 u (u.1 (a1 / (2 : Int32)).toNatClampNeg)) else none) else (fnD_peek_17 u)))
set_option maxRecDepth 100000 in
set_option maxHeartbeats 4000000 in
theorem ctD_peek (l : Launch) (D : va_G) (kI : ClassId) (o aw ar : Nat) (sz : Nat) (u : sD) (a1 : Int32) (tg : Int32 × sD) (ht : fnD_peek u a1 = some tg) : Met l yX2_peek (Cond.code yX2_peek cX2_peek 2 (some .int) :: wAll) ({ frames := 0, cells := 0, slots := 0, locals := 0 } : Room) (va_Pc [.ref o, .int a1] (prG D kI (clD o aw ar kI) sz u)) (va_Qi (fun (x : Int32) (v : sD) => x = tg.1 ∧ v = tg.2) (poG D kI (clD o aw ar kI) (va_A (clD o aw ar kI u) sz)) (va_A (clD o aw ar kI u) sz)) 0 0 (va_A (clD o aw ar kI u) sz) := by
  refine mOfW (cc := cX2_peek) (maxL := 2) (ret := (some .int)) (by decide) rfl ?_
  intro p e s m args below meth c s₁ Q R hQ hR B hml hv
  obtain ⟨rfl, hsz, hP, hK, hD0⟩ := hv
  have hx := B.exec
  have hb := B.bytes
  have hr := B.returns
  have hts := atoms_spec (ws := Cond.code yX2_peek cX2_peek 2 (some .int) :: wAll) B.pre
  have hw : ∀ {w : Cond}, w ∈ wAll → w.before _ s = true := fun {w} h => hts w (List.mem_cons_of_mem _ h)
  have hown : s.vm.findClass RX2 = some m.cls := findClass_of_methodNamed B.named
  have hlocks := B.notSynchronized
  have hRf : 0 ≤ R.frames := by rw [hR]; exact Nat.le_refl _
  have hRl : 0 ≤ R.locals := by rw [hR]; exact Nat.le_refl _
  subst hsz
  have hD := hD0.self (sz := s.heap.size)
  generalize hAe : va_A (clD o aw ar kI u) s.heap.size = A at hD  hQ
  have hA : ∀ q : Nat, s.heap.size ≤ q → A q := fun q h => by rw [← hAe]; exact Or.inr h
  have hl := lv_entry ([.ref o, .int a1]) (n := 2) (Nat.le_of_ble_eq_true rfl)
  rw [lg_entry_eq]
  generalize (lg_sl ([.ref o, .int a1]) ++ List.replicate (2 - (lg_sl ([.ref o, .int a1])).length) Slot.unset).toArray = ls at hl ⊢
  have hl : lv_has ls 2 [(0, .ref o), (1, .int a1)] := hl
  have hin0 : ∀ w ∈ u_ws RX2 TX2 7, w ∈ (Cond.code yX2_peek cX2_peek 2 (some .int) :: wAll) := fun w h => List.mem_cons_of_mem _ (w_flX2 w h)
  have K29 : ∀ (H : Heap) (locs : List Loc) (ls : Array Slot) (u : sD) (y0 : Int32) , va_P D vwCl (clD o aw ar kI u) H → va_D A (clD o aw ar kI u) → va_S A s.heap H locs → lv_has ls 2 [] → fnD_peek_29 u y0 = some tg → W p l e R s m ([.ref o, .int a1] : List Value).toArray below meth c H locs 0 0 Q (F0 m 29 ls [.int y0]) := by
    intro H locs ls u y0 hP hD hS hl ht
    unfold fnD_peek_29 at ht
    have e9 := Option.some.inj ht
    subst hQ
    exact W.iret (v := y0) hx hb hr (fun t ht9 hW => ⟨⟨y0, u, rfl, ⟨pr1 e9, pr2 e9⟩, ⟨by rw [ht9]; exact hP, va_K.moved hW.alike hK, hD⟩⟩, hS.F ht9⟩) hS.2.2 dX2_peek_29
  have K17 : ∀ (H : Heap) (locs : List Loc) (ls : Array Slot) (u : sD) , va_P D vwCl (clD o aw ar kI u) H → va_D A (clD o aw ar kI u) → va_S A s.heap H locs → lv_has ls 2 [] → fnD_peek_17 u  = some tg → W p l e R s m ([.ref o, .int a1] : List Value).toArray below meth c H locs 0 0 Q (F0 m 17 ls []) := by
    intro H locs ls u  hP hD hS hl ht
    unfold fnD_peek_17 at ht
    refine lv_iconst (v := (-1 : Int32)) hx hb dX2_peek_17 (by decide) ?_
    refine lv_goto (tgt := 29) hx hb dX2_peek_18 (by decide) ?_
    exact K29 _ _ _ u (-1 : Int32) hP hD hS (lv_sub hl [] rfl) ht
  unfold fnD_peek at ht
  obtain ⟨H, hHe⟩ : ∃ H : Heap, H = s.heap := ⟨_, rfl⟩
  have hP : va_P D vwCl (clD o aw ar kI u) H := by rw [hHe]; exact hP
  have hS : va_S A s.heap H [] := by rw [hHe]; exact va_S.rf
  rw [← hHe]
  refine lv_iload_n hx hb dX2_peek_0 rfl (lv_at hl 1 rfl) ?_
  refine lv_if_lt (tgt := 17) hx hb dX2_peek_1 (by decide) (fun g1 => ?_) (fun g1 => ?_)
  · have ht := (if_pos g1).symm.trans ht
    exact K17 _ _ _ u hP hD hS (lv_sub hl [] rfl) ht
  · have ht := (if_neg g1).symm.trans ht
    refine lv_iload_n hx hb dX2_peek_4 rfl (lv_at hl 1 rfl) ?_
    refine lv_sipush (v := (4096 : Int32)) hx hb dX2_peek_5 (by decide) ?_
    refine lv_icmp_ge (tgt := 17) hx hb dX2_peek_8 (by decide) (fun g2 => ?_) (fun g2 => ?_)
    · have ht := (if_pos g2).symm.trans ht
      exact K17 _ _ _ u hP hD hS (lv_sub hl [] rfl) ht
    · have ht := (if_neg g2).symm.trans ht
      refine lv_iload_n hx hb dX2_peek_11 rfl (lv_at hl 1 rfl) ?_
      refine lv_iconst (v := (2 : Int32)) hx hb dX2_peek_12 (by decide) ?_
      refine lv_irem hx hb dX2_peek_13 (by decide) ?_
      refine lv_if_eq (tgt := 21) hx hb dX2_peek_14 (by decide) (fun g3 => ?_) (fun g3 => ?_)
      · have ht := (if_pos g3).symm.trans ht
        refine lv_aload_n hx hb dX2_peek_21 rfl (lv_at hl 0 rfl) ?_
        refine va_get (D := D) (ci := 2) (v := .ref aw) (C := RX2) (T := TX2) (N := 7) hx hb hts hin0 hown hK hP 0 rfl rfl 0 (by decide) (hw w_f_X2_7) (fun _ h9 => h9) rfl dX2_peek_22 ?_
        refine lv_iload_n hx hb dX2_peek_25 rfl (lv_at hl 1 rfl) ?_
        refine lv_iconst (v := (2 : Int32)) hx hb dX2_peek_26 (by decide) ?_
        refine lv_idiv hx hb dX2_peek_27 (by decide) ?_
        obtain ⟨b4, ht⟩ := oi_some ht
        refine va_iald hx hb hK hP 1 0 rfl rfl (ixk_in b4) dX2_peek_28 ?_
        exact K29 _ _ _ u (u.1 (a1 / (2 : Int32)).toNatClampNeg) hP hD hS (lv_sub hl [] rfl) ht
      · have ht := (if_neg g3).symm.trans ht
        exact K17 _ _ _ u hP hD hS (lv_sub hl [] rfl) ht
def fnD_poke_17 (u : sD) : Option (Int32 × sD) := some ((0 : Int32), u)
def fnD_poke (u : sD) (a1 : Int32) (a2 : Int32) : Option (Int32 × sD) := if a1 < 0 then (fnD_poke_17 u) else (if (4096 : Int32) ≤ a1 then (fnD_poke_17 u) else (if (a1 - a1 / (2 : Int32) * (2 : Int32)) = 0 then (if ixk (a1 / (2 : Int32)) 2048 then (some ((1 : Int32), ((upd u.1 (a1 / (2 : Int32)).toNatClampNeg (a2 &&& (65535 : Int32))), u.2.1, u.2.2.1, u.2.2.2.1, u.2.2.2.2.1, u.2.2.2.2.2.1, u.2.2.2.2.2.2))) else none) else (fnD_poke_17 u)))
set_option maxRecDepth 100000 in
set_option maxHeartbeats 4000000 in
theorem ctD_poke (l : Launch) (D : va_G) (kI : ClassId) (o aw ar : Nat) (sz : Nat) (u : sD) (a1 : Int32) (a2 : Int32) (tg : Int32 × sD) (ht : fnD_poke u a1 a2 = some tg) : Met l yX2_poke (Cond.code yX2_poke cX2_poke 3 (some .boolean) :: wAll) ({ frames := 0, cells := 0, slots := 0, locals := 0 } : Room) (va_Pc [.ref o, .int a1, .int a2] (prG D kI (clD o aw ar kI) sz u)) (va_Qi (fun (x : Int32) (v : sD) => x = tg.1 ∧ v = tg.2) (poG D kI (clD o aw ar kI) (va_A (clD o aw ar kI u) sz)) (va_A (clD o aw ar kI u) sz)) 0 0 (va_A (clD o aw ar kI u) sz) := by
  refine mOfW (cc := cX2_poke) (maxL := 3) (ret := (some .boolean)) (by decide) rfl ?_
  intro p e s m args below meth c s₁ Q R hQ hR B hml hv
  obtain ⟨rfl, hsz, hP, hK, hD0⟩ := hv
  have hx := B.exec
  have hb := B.bytes
  have hr := B.returns
  have hts := atoms_spec (ws := Cond.code yX2_poke cX2_poke 3 (some .boolean) :: wAll) B.pre
  have hw : ∀ {w : Cond}, w ∈ wAll → w.before _ s = true := fun {w} h => hts w (List.mem_cons_of_mem _ h)
  have hown : s.vm.findClass RX2 = some m.cls := findClass_of_methodNamed B.named
  have hlocks := B.notSynchronized
  have hRf : 0 ≤ R.frames := by rw [hR]; exact Nat.le_refl _
  have hRl : 0 ≤ R.locals := by rw [hR]; exact Nat.le_refl _
  subst hsz
  have hD := hD0.self (sz := s.heap.size)
  generalize hAe : va_A (clD o aw ar kI u) s.heap.size = A at hD  hQ
  have hA : ∀ q : Nat, s.heap.size ≤ q → A q := fun q h => by rw [← hAe]; exact Or.inr h
  have hl := lv_entry ([.ref o, .int a1, .int a2]) (n := 3) (Nat.le_of_ble_eq_true rfl)
  rw [lg_entry_eq]
  generalize (lg_sl ([.ref o, .int a1, .int a2]) ++ List.replicate (3 - (lg_sl ([.ref o, .int a1, .int a2])).length) Slot.unset).toArray = ls at hl ⊢
  have hl : lv_has ls 3 [(0, .ref o), (1, .int a1), (2, .int a2)] := hl
  have hin0 : ∀ w ∈ u_ws RX2 TX2 7, w ∈ (Cond.code yX2_poke cX2_poke 3 (some .boolean) :: wAll) := fun w h => List.mem_cons_of_mem _ (w_flX2 w h)
  have K17 : ∀ (H : Heap) (locs : List Loc) (ls : Array Slot) (u : sD) , va_P D vwCl (clD o aw ar kI u) H → va_D A (clD o aw ar kI u) → va_S A s.heap H locs → lv_has ls 3 [] → fnD_poke_17 u  = some tg → W p l e R s m ([.ref o, .int a1, .int a2] : List Value).toArray below meth c H locs 0 0 Q (F0 m 17 ls []) := by
    intro H locs ls u  hP hD hS hl ht
    unfold fnD_poke_17 at ht
    refine lv_iconst (v := (0 : Int32)) hx hb dX2_poke_17 (by decide) ?_
    have e9 := Option.some.inj ht
    subst hQ
    exact W.zret (ty := .boolean) (v := (0 : Int32)) hx hb hr (by decide) (fun t ht9 hW => ⟨⟨(0 : Int32), u, rfl, ⟨pr1 e9, pr2 e9⟩, ⟨by rw [ht9]; exact hP, va_K.moved hW.alike hK, hD⟩⟩, hS.F ht9⟩) hS.2.2 dX2_poke_18
  unfold fnD_poke at ht
  obtain ⟨H, hHe⟩ : ∃ H : Heap, H = s.heap := ⟨_, rfl⟩
  have hP : va_P D vwCl (clD o aw ar kI u) H := by rw [hHe]; exact hP
  have hS : va_S A s.heap H [] := by rw [hHe]; exact va_S.rf
  rw [← hHe]
  refine lv_iload_n hx hb dX2_poke_0 rfl (lv_at hl 1 rfl) ?_
  refine lv_if_lt (tgt := 17) hx hb dX2_poke_1 (by decide) (fun g1 => ?_) (fun g1 => ?_)
  · have ht := (if_pos g1).symm.trans ht
    exact K17 _ _ _ u hP hD hS (lv_sub hl [] rfl) ht
  · have ht := (if_neg g1).symm.trans ht
    refine lv_iload_n hx hb dX2_poke_4 rfl (lv_at hl 1 rfl) ?_
    refine lv_sipush (v := (4096 : Int32)) hx hb dX2_poke_5 (by decide) ?_
    refine lv_icmp_ge (tgt := 17) hx hb dX2_poke_8 (by decide) (fun g2 => ?_) (fun g2 => ?_)
    · have ht := (if_pos g2).symm.trans ht
      exact K17 _ _ _ u hP hD hS (lv_sub hl [] rfl) ht
    · have ht := (if_neg g2).symm.trans ht
      refine lv_iload_n hx hb dX2_poke_11 rfl (lv_at hl 1 rfl) ?_
      refine lv_iconst (v := (2 : Int32)) hx hb dX2_poke_12 (by decide) ?_
      refine lv_irem hx hb dX2_poke_13 (by decide) ?_
      refine lv_if_eq (tgt := 19) hx hb dX2_poke_14 (by decide) (fun g3 => ?_) (fun g3 => ?_)
      · have ht := (if_pos g3).symm.trans ht
        refine lv_aload_n hx hb dX2_poke_19 rfl (lv_at hl 0 rfl) ?_
        refine va_get (D := D) (ci := 2) (v := .ref aw) (C := RX2) (T := TX2) (N := 7) hx hb hts hin0 hown hK hP 0 rfl rfl 0 (by decide) (hw w_f_X2_7) (fun _ h9 => h9) rfl dX2_poke_20 ?_
        refine lv_iload_n hx hb dX2_poke_23 rfl (lv_at hl 1 rfl) ?_
        refine lv_iconst (v := (2 : Int32)) hx hb dX2_poke_24 (by decide) ?_
        refine lv_idiv hx hb dX2_poke_25 (by decide) ?_
        refine lv_iload_n hx hb dX2_poke_26 rfl (lv_at hl 2 rfl) ?_
        refine lv_ldc (v := (65535 : Int32)) hx hb hown (hw w_k_X2_16) dX2_poke_27 ?_
        refine lv_iand hx hb dX2_poke_29 ?_
        obtain ⟨b4, ht⟩ := oi_some ht
        refine va_iast hx hb hK hP hD hS 1 0 rfl rfl (ixk_in b4) dX2_poke_30 (fun H locs hP hD hS => ?_)
        have hP : va_P D vwCl (clD o aw ar kI ((upd u.1 (a1 / (2 : Int32)).toNatClampNeg (a2 &&& (65535 : Int32))), u.2.1, u.2.2.1, u.2.2.2.1, u.2.2.2.2.1, u.2.2.2.2.2.1, u.2.2.2.2.2.2)) H := hP
        have hD : va_D A (clD o aw ar kI ((upd u.1 (a1 / (2 : Int32)).toNatClampNeg (a2 &&& (65535 : Int32))), u.2.1, u.2.2.1, u.2.2.2.1, u.2.2.2.2.1, u.2.2.2.2.2.1, u.2.2.2.2.2.2)) := hD
        refine lv_iconst (v := (1 : Int32)) hx hb dX2_poke_31 (by decide) ?_
        have e9 := Option.some.inj ht
        subst hQ
        exact W.zret (ty := .boolean) (v := (1 : Int32)) hx hb hr (by decide) (fun t ht9 hW => ⟨⟨(1 : Int32), ((upd u.1 (a1 / (2 : Int32)).toNatClampNeg (a2 &&& (65535 : Int32))), u.2.1, u.2.2.1, u.2.2.2.1, u.2.2.2.2.1, u.2.2.2.2.2.1, u.2.2.2.2.2.2), rfl, ⟨pr1 e9, pr2 e9⟩, ⟨by rw [ht9]; exact hP, va_K.moved hW.alike hK, hD⟩⟩, hS.F ht9⟩) hS.2.2 dX2_poke_32
      · have ht := (if_neg g3).symm.trans ht
        exact K17 _ _ _ u hP hD hS (lv_sub hl [] rfl) ht
def fnD_register_20 (u : sD) (y0 : Int32) : Option (Int32 × sD) := some (y0, u)
def fnD_register_10 (u : sD) : Option (Int32 × sD) := fnD_register_20 u (-1 : Int32)
def fnD_register (u : sD) (a1 : Int32) : Option (Int32 × sD) := if a1 < 0 then (fnD_register_10 u) else (if a1 ≤ (7 : Int32) then (if ixk a1 8 then (fnD_register_20 u (u.2.1 a1.toNatClampNeg)) else none) else (fnD_register_10 u))
set_option maxRecDepth 100000 in
set_option maxHeartbeats 4000000 in
theorem ctD_register (l : Launch) (D : va_G) (kI : ClassId) (o aw ar : Nat) (sz : Nat) (u : sD) (a1 : Int32) (tg : Int32 × sD) (ht : fnD_register u a1 = some tg) : Met l yX2_register (Cond.code yX2_register cX2_register 2 (some .int) :: wAll) ({ frames := 0, cells := 0, slots := 0, locals := 0 } : Room) (va_Pc [.ref o, .int a1] (prG D kI (clD o aw ar kI) sz u)) (va_Qi (fun (x : Int32) (v : sD) => x = tg.1 ∧ v = tg.2) (poG D kI (clD o aw ar kI) (va_A (clD o aw ar kI u) sz)) (va_A (clD o aw ar kI u) sz)) 0 0 (va_A (clD o aw ar kI u) sz) := by
  refine mOfW (cc := cX2_register) (maxL := 2) (ret := (some .int)) (by decide) rfl ?_
  intro p e s m args below meth c s₁ Q R hQ hR B hml hv
  obtain ⟨rfl, hsz, hP, hK, hD0⟩ := hv
  have hx := B.exec
  have hb := B.bytes
  have hr := B.returns
  have hts := atoms_spec (ws := Cond.code yX2_register cX2_register 2 (some .int) :: wAll) B.pre
  have hw : ∀ {w : Cond}, w ∈ wAll → w.before _ s = true := fun {w} h => hts w (List.mem_cons_of_mem _ h)
  have hown : s.vm.findClass RX2 = some m.cls := findClass_of_methodNamed B.named
  have hlocks := B.notSynchronized
  have hRf : 0 ≤ R.frames := by rw [hR]; exact Nat.le_refl _
  have hRl : 0 ≤ R.locals := by rw [hR]; exact Nat.le_refl _
  subst hsz
  have hD := hD0.self (sz := s.heap.size)
  generalize hAe : va_A (clD o aw ar kI u) s.heap.size = A at hD  hQ
  have hA : ∀ q : Nat, s.heap.size ≤ q → A q := fun q h => by rw [← hAe]; exact Or.inr h
  have hl := lv_entry ([.ref o, .int a1]) (n := 2) (Nat.le_of_ble_eq_true rfl)
  rw [lg_entry_eq]
  generalize (lg_sl ([.ref o, .int a1]) ++ List.replicate (2 - (lg_sl ([.ref o, .int a1])).length) Slot.unset).toArray = ls at hl ⊢
  have hl : lv_has ls 2 [(0, .ref o), (1, .int a1)] := hl
  have hin0 : ∀ w ∈ u_ws RX2 TX2 7, w ∈ (Cond.code yX2_register cX2_register 2 (some .int) :: wAll) := fun w h => List.mem_cons_of_mem _ (w_flX2 w h)
  have K20 : ∀ (H : Heap) (locs : List Loc) (ls : Array Slot) (u : sD) (y0 : Int32) , va_P D vwCl (clD o aw ar kI u) H → va_D A (clD o aw ar kI u) → va_S A s.heap H locs → lv_has ls 2 [] → fnD_register_20 u y0 = some tg → W p l e R s m ([.ref o, .int a1] : List Value).toArray below meth c H locs 0 0 Q (F0 m 20 ls [.int y0]) := by
    intro H locs ls u y0 hP hD hS hl ht
    unfold fnD_register_20 at ht
    have e9 := Option.some.inj ht
    subst hQ
    exact W.iret (v := y0) hx hb hr (fun t ht9 hW => ⟨⟨y0, u, rfl, ⟨pr1 e9, pr2 e9⟩, ⟨by rw [ht9]; exact hP, va_K.moved hW.alike hK, hD⟩⟩, hS.F ht9⟩) hS.2.2 dX2_register_20
  have K10 : ∀ (H : Heap) (locs : List Loc) (ls : Array Slot) (u : sD) , va_P D vwCl (clD o aw ar kI u) H → va_D A (clD o aw ar kI u) → va_S A s.heap H locs → lv_has ls 2 [] → fnD_register_10 u  = some tg → W p l e R s m ([.ref o, .int a1] : List Value).toArray below meth c H locs 0 0 Q (F0 m 10 ls []) := by
    intro H locs ls u  hP hD hS hl ht
    unfold fnD_register_10 at ht
    refine lv_iconst (v := (-1 : Int32)) hx hb dX2_register_10 (by decide) ?_
    refine lv_goto (tgt := 20) hx hb dX2_register_11 (by decide) ?_
    exact K20 _ _ _ u (-1 : Int32) hP hD hS (lv_sub hl [] rfl) ht
  unfold fnD_register at ht
  obtain ⟨H, hHe⟩ : ∃ H : Heap, H = s.heap := ⟨_, rfl⟩
  have hP : va_P D vwCl (clD o aw ar kI u) H := by rw [hHe]; exact hP
  have hS : va_S A s.heap H [] := by rw [hHe]; exact va_S.rf
  rw [← hHe]
  refine lv_iload_n hx hb dX2_register_0 rfl (lv_at hl 1 rfl) ?_
  refine lv_if_lt (tgt := 10) hx hb dX2_register_1 (by decide) (fun g1 => ?_) (fun g1 => ?_)
  · have ht := (if_pos g1).symm.trans ht
    exact K10 _ _ _ u hP hD hS (lv_sub hl [] rfl) ht
  · have ht := (if_neg g1).symm.trans ht
    refine lv_iload_n hx hb dX2_register_4 rfl (lv_at hl 1 rfl) ?_
    refine lv_bipush (v := (7 : Int32)) hx hb dX2_register_5 (by decide) ?_
    refine lv_icmp_le (tgt := 14) hx hb dX2_register_7 (by decide) (fun g2 => ?_) (fun g2 => ?_)
    · have ht := (if_pos g2).symm.trans ht
      refine lv_aload_n hx hb dX2_register_14 rfl (lv_at hl 0 rfl) ?_
      refine va_get (D := D) (ci := 2) (v := .ref ar) (C := RX2) (T := TX2) (N := 7) hx hb hts hin0 hown hK hP 0 rfl rfl 1 (by decide) (hw w_f_X2_13) (fun _ h9 => h9) rfl dX2_register_15 ?_
      refine lv_iload_n hx hb dX2_register_18 rfl (lv_at hl 1 rfl) ?_
      obtain ⟨b3, ht⟩ := oi_some ht
      refine va_iald hx hb hK hP 2 0 rfl rfl (ixk_in b3) dX2_register_19 ?_
      exact K20 _ _ _ u (u.2.1 a1.toNatClampNeg) hP hD hS (lv_sub hl [] rfl) ht
    · have ht := (if_neg g2).symm.trans ht
      exact K10 _ _ _ u hP hD hS (lv_sub hl [] rfl) ht
def fnD_step_93 (u : sD) : Option (Int32 × sD) := if u.2.2.2.1 ≤ 0 then (some (u.2.2.2.2.2.1, (u.1, u.2.1, u.2.2.1, u.2.2.2.1, (u.2.2.2.2.1 + u.2.2.2.2.2.1.toInt64), u.2.2.2.2.2.1, u.2.2.2.2.2.2))) else (some ((-1 : Int32), u))
def fnD_step_80 (u : sD) (x1 : Int32) : Option (Int32 × sD) := (fnD_doOther u x1).bind (fun r14 => fnD_step_93 r14.2)
def fnD_step_62 (u : sD) : Option (Int32 × sD) := fnD_step_93 (u.1, u.2.1, u.2.2.1, (2 : Int32), u.2.2.2.2.1, u.2.2.2.2.2.1, u.2.2.2.2.2.2)
def fnD_step (u : sD) : Option (Int32 × sD) := if u.2.2.2.1 ≤ 0 then ((fnD_following (u.1, u.2.1, u.2.2.1, u.2.2.2.1, u.2.2.2.2.1, (2 : Int32), u.2.2.2.2.2.2)).bind (fun r2 => if r2.2.2.2.2.1 ≤ 0 then (if (r2.1 >>> ((9 : Int32) &&& 31)) = (63 : Int32) then ((fnD_count r2.2 r2.1).bind (fun r12 => fnD_step_93 r12.2)) else (if (r2.1 >>> ((12 : Int32) &&& 31)) = (7 : Int32) then (fnD_step_62 r2.2) else (if (r2.1 >>> ((12 : Int32) &&& 31)) = (15 : Int32) then (fnD_step_62 r2.2) else (if (r2.1 >>> ((12 : Int32) &&& 31)) = 0 then (fnD_step_80 r2.2 r2.1) else (if (r2.1 >>> ((12 : Int32) &&& 31)) = (8 : Int32) then (fnD_step_80 r2.2 r2.1) else ((fnD_doTwo r2.2 r2.1).bind (fun r10 => fnD_step_93 r10.2))))))) else (some ((-1 : Int32), r2.2)))) else (some ((-1 : Int32), u))
set_option maxRecDepth 100000 in
set_option maxHeartbeats 4000000 in
theorem ctD_step (l : Launch) (D : va_G) (kI : ClassId) (o aw ar : Nat) (sz : Nat) (u : sD) (tg : Int32 × sD) (ht : fnD_step u  = some tg) : Met l yX2_step (Cond.code yX2_step cX2_step 3 (some .int) :: wAll) ({ frames := 5, cells := 0, slots := 0, locals := 120 } : Room) (va_Pc [.ref o] (prG D kI (clD o aw ar kI) sz u)) (va_Qi (fun (x : Int32) (v : sD) => x = tg.1 ∧ v = tg.2) (poG D kI (clD o aw ar kI) (va_A (clD o aw ar kI u) sz)) (va_A (clD o aw ar kI u) sz)) 0 0 (va_A (clD o aw ar kI u) sz) := by
  refine mOfW (cc := cX2_step) (maxL := 3) (ret := (some .int)) (by decide) rfl ?_
  intro p e s m args below meth c s₁ Q R hQ hR B hml hv
  obtain ⟨rfl, hsz, hP, hK, hD0⟩ := hv
  have hx := B.exec
  have hb := B.bytes
  have hr := B.returns
  have hts := atoms_spec (ws := Cond.code yX2_step cX2_step 3 (some .int) :: wAll) B.pre
  have hw : ∀ {w : Cond}, w ∈ wAll → w.before _ s = true := fun {w} h => hts w (List.mem_cons_of_mem _ h)
  have hown : s.vm.findClass RX2 = some m.cls := findClass_of_methodNamed B.named
  have hlocks := B.notSynchronized
  have hRf : 5 ≤ R.frames := by rw [hR]; exact Nat.le_refl _
  have hRl : 120 ≤ R.locals := by rw [hR]; exact Nat.le_refl _
  subst hsz
  have hD := hD0.self (sz := s.heap.size)
  generalize hAe : va_A (clD o aw ar kI u) s.heap.size = A at hD  hQ
  have hA : ∀ q : Nat, s.heap.size ≤ q → A q := fun q h => by rw [← hAe]; exact Or.inr h
  have hl := lv_entry ([.ref o]) (n := 3) (Nat.le_of_ble_eq_true rfl)
  rw [lg_entry_eq]
  generalize (lg_sl ([.ref o]) ++ List.replicate (3 - (lg_sl ([.ref o])).length) Slot.unset).toArray = ls at hl ⊢
  have hl : lv_has ls 3 [(0, .ref o)] := hl
  have hin0 : ∀ w ∈ u_ws RX2 TX2 7, w ∈ (Cond.code yX2_step cX2_step 3 (some .int) :: wAll) := fun w h => List.mem_cons_of_mem _ (w_flX2 w h)
  have K93 : ∀ (H : Heap) (locs : List Loc) (ls : Array Slot) (u : sD) , va_P D vwCl (clD o aw ar kI u) H → va_D A (clD o aw ar kI u) → va_S A s.heap H locs → lv_has ls 3 [(0, .ref o)] → fnD_step_93 u  = some tg → W p l e R s m ([.ref o] : List Value).toArray below meth c H locs 0 0 Q (F0 m 93 ls []) := by
    intro H locs ls u  hP hD hS hl ht
    unfold fnD_step_93 at ht
    refine lv_aload_n hx hb dX2_step_93 rfl (lv_at hl 0 rfl) ?_
    refine va_get (D := D) (ci := 2) (v := .int u.2.2.2.1) (C := RX2) (T := TX2) (N := 7) hx hb hts hin0 hown hK hP 0 rfl rfl 3 (by decide) (hw w_f_X2_25) (fun _ h9 => h9) rfl dX2_step_94 ?_
    refine lv_if_le (tgt := 102) hx hb dX2_step_97 (by decide) (fun g16 => ?_) (fun g16 => ?_)
    · have ht := (if_pos g16).symm.trans ht
      refine lv_aload_n hx hb dX2_step_102 rfl (lv_at hl 0 rfl) ?_
      refine lv_dup hx hb dX2_step_103 rfl ?_
      refine va_get (D := D) (ci := 2) (v := .long u.2.2.2.2.1) (C := RX2) (T := TX2) (N := 7) hx hb hts hin0 hown hK hP 0 rfl rfl 4 (by decide) (hw w_f_X2_21) (fun _ h9 => h9) rfl dX2_step_104 ?_
      refine lv_aload_n hx hb dX2_step_107 rfl (lv_at hl 0 rfl) ?_
      refine va_get (D := D) (ci := 2) (v := .int u.2.2.2.2.2.1) (C := RX2) (T := TX2) (N := 7) hx hb hts hin0 hown hK hP 0 rfl rfl 5 (by decide) (hw w_f_X2_39) (fun _ h9 => h9) rfl dX2_step_108 ?_
      refine lv_i2l hx hb dX2_step_111 rfl ?_
      refine lv_ladd hx hb dX2_step_112 ?_
      refine va_put (D := D) (ci := 2) (v := .long (u.2.2.2.2.1 + u.2.2.2.2.2.1.toInt64)) (ty := .long) (C := RX2) (T := TX2) (N := 7) hx hb hts hin0 tyX2 tyX2_ok nmX2 hown hK hP hD hS 0 rfl rfl 4 (by decide) (hw w_f_X2_21) (fun _ h9 => h9) rfl (by decide +kernel) rfl rfl (Nat.le_of_ble_eq_true rfl) dX2_step_113 (fun H locs hP hD hS => ?_)
      have hP : va_P D vwCl (clD o aw ar kI (u.1, u.2.1, u.2.2.1, u.2.2.2.1, (u.2.2.2.2.1 + u.2.2.2.2.2.1.toInt64), u.2.2.2.2.2.1, u.2.2.2.2.2.2)) H := hP
      have hD : va_D A (clD o aw ar kI (u.1, u.2.1, u.2.2.1, u.2.2.2.1, (u.2.2.2.2.1 + u.2.2.2.2.2.1.toInt64), u.2.2.2.2.2.1, u.2.2.2.2.2.2)) := hD
      refine lv_aload_n hx hb dX2_step_116 rfl (lv_at hl 0 rfl) ?_
      refine va_get (D := D) (ci := 2) (v := .int u.2.2.2.2.2.1) (C := RX2) (T := TX2) (N := 7) hx hb hts hin0 hown hK hP 0 rfl rfl 5 (by decide) (hw w_f_X2_39) (fun _ h9 => h9) rfl dX2_step_117 ?_
      have e9 := Option.some.inj ht
      subst hQ
      exact W.iret (v := u.2.2.2.2.2.1) hx hb hr (fun t ht9 hW => ⟨⟨u.2.2.2.2.2.1, (u.1, u.2.1, u.2.2.1, u.2.2.2.1, (u.2.2.2.2.1 + u.2.2.2.2.2.1.toInt64), u.2.2.2.2.2.1, u.2.2.2.2.2.2), rfl, ⟨pr1 e9, pr2 e9⟩, ⟨by rw [ht9]; exact hP, va_K.moved hW.alike hK, hD⟩⟩, hS.F ht9⟩) hS.2.2 dX2_step_120
    · have ht := (if_neg g16).symm.trans ht
      refine lv_iconst (v := (-1 : Int32)) hx hb dX2_step_100 (by decide) ?_
      have e9 := Option.some.inj ht
      subst hQ
      exact W.iret (v := (-1 : Int32)) hx hb hr (fun t ht9 hW => ⟨⟨(-1 : Int32), u, rfl, ⟨pr1 e9, pr2 e9⟩, ⟨by rw [ht9]; exact hP, va_K.moved hW.alike hK, hD⟩⟩, hS.F ht9⟩) hS.2.2 dX2_step_101
  have K80 : ∀ (H : Heap) (locs : List Loc) (ls : Array Slot) (u : sD) (x1 : Int32) , va_P D vwCl (clD o aw ar kI u) H → va_D A (clD o aw ar kI u) → va_S A s.heap H locs → lv_has ls 3 [(0, .ref o), (1, .int x1)] → fnD_step_80 u x1 = some tg → W p l e R s m ([.ref o] : List Value).toArray below meth c H locs 0 0 Q (F0 m 80 ls []) := by
    intro H locs ls u x1 hP hD hS hl ht
    unfold fnD_step_80 at ht
    refine lv_aload_n hx hb dX2_step_80 rfl (lv_at hl 0 rfl) ?_
    refine lv_iload_n hx hb dX2_step_81 rfl (lv_at hl 1 rfl) ?_
    obtain ⟨r14, h15, ht⟩ := ob_some ht
    refine kG_v (cl := clD o aw ar kI) (u := u) (va_runV (As := [.int x1]) (rest := []) ⟨hx, hb, hml, hown, hts⟩ (ctD_doOther l D kI o aw ar H.size u x1 r14 h15) (cwV 1 hts (gV w_m_X2_102 w_im_yX2_doOther w_sel_yX2_doOther w_init_MicroMillModel w_co_yX2_doOther) rfl rfl rfl (by decide +kernel) ⟨Nat.le_trans (Nat.le_of_ble_eq_true rfl) hRf, Nat.le_trans (Nat.le_of_ble_eq_true rfl) hRl⟩) (preG (cl := clD o aw ar kI) (u := u) (N := 7) (ci := 2) hK hP (hD.weaken (fun _ _ _ _ => trivial)) rfl rfl _) rfl rfl hl.1 rfl (lv_room (Nat.le_of_ble_eq_true rfl)) dX2_step_82 ⟨Nat.zero_le _, Nat.zero_le _⟩) hD hS hA (fun H locs hP hD hS => ?_)
    refine lv_goto (tgt := 93) hx hb dX2_step_85 (by decide) ?_
    exact K93 _ _ _ r14.2 hP hD hS (lv_sub hl [0] rfl) ht
  have K62 : ∀ (H : Heap) (locs : List Loc) (ls : Array Slot) (u : sD) , va_P D vwCl (clD o aw ar kI u) H → va_D A (clD o aw ar kI u) → va_S A s.heap H locs → lv_has ls 3 [(0, .ref o)] → fnD_step_62 u  = some tg → W p l e R s m ([.ref o] : List Value).toArray below meth c H locs 0 0 Q (F0 m 62 ls []) := by
    intro H locs ls u  hP hD hS hl ht
    unfold fnD_step_62 at ht
    refine lv_aload_n hx hb dX2_step_62 rfl (lv_at hl 0 rfl) ?_
    refine lv_iconst (v := (2 : Int32)) hx hb dX2_step_63 (by decide) ?_
    refine va_put (D := D) (ci := 2) (v := .int (2 : Int32)) (ty := .int) (C := RX2) (T := TX2) (N := 7) hx hb hts hin0 tyX2 tyX2_ok nmX2 hown hK hP hD hS 0 rfl rfl 3 (by decide) (hw w_f_X2_25) (fun _ h9 => h9) rfl (by decide +kernel) rfl rfl (Nat.le_of_ble_eq_true rfl) dX2_step_64 (fun H locs hP hD hS => ?_)
    have hP : va_P D vwCl (clD o aw ar kI (u.1, u.2.1, u.2.2.1, (2 : Int32), u.2.2.2.2.1, u.2.2.2.2.2.1, u.2.2.2.2.2.2)) H := hP
    have hD : va_D A (clD o aw ar kI (u.1, u.2.1, u.2.2.1, (2 : Int32), u.2.2.2.2.1, u.2.2.2.2.2.1, u.2.2.2.2.2.2)) := hD
    refine lv_goto (tgt := 93) hx hb dX2_step_67 (by decide) ?_
    exact K93 _ _ _ (u.1, u.2.1, u.2.2.1, (2 : Int32), u.2.2.2.2.1, u.2.2.2.2.2.1, u.2.2.2.2.2.2) hP hD hS (lv_sub hl [0] rfl) ht
  unfold fnD_step at ht
  obtain ⟨H, hHe⟩ : ∃ H : Heap, H = s.heap := ⟨_, rfl⟩
  have hP : va_P D vwCl (clD o aw ar kI u) H := by rw [hHe]; exact hP
  have hS : va_S A s.heap H [] := by rw [hHe]; exact va_S.rf
  rw [← hHe]
  refine lv_aload_n hx hb dX2_step_0 rfl (lv_at hl 0 rfl) ?_
  refine va_get (D := D) (ci := 2) (v := .int u.2.2.2.1) (C := RX2) (T := TX2) (N := 7) hx hb hts hin0 hown hK hP 0 rfl rfl 3 (by decide) (hw w_f_X2_25) (fun _ h9 => h9) rfl dX2_step_1 ?_
  refine lv_if_le (tgt := 9) hx hb dX2_step_4 (by decide) (fun g1 => ?_) (fun g1 => ?_)
  · have ht := (if_pos g1).symm.trans ht
    refine lv_aload_n hx hb dX2_step_9 rfl (lv_at hl 0 rfl) ?_
    refine lv_iconst (v := (2 : Int32)) hx hb dX2_step_10 (by decide) ?_
    refine va_put (D := D) (ci := 2) (v := .int (2 : Int32)) (ty := .int) (C := RX2) (T := TX2) (N := 7) hx hb hts hin0 tyX2 tyX2_ok nmX2 hown hK hP hD hS 0 rfl rfl 5 (by decide) (hw w_f_X2_39) (fun _ h9 => h9) rfl (by decide +kernel) rfl rfl (Nat.le_of_ble_eq_true rfl) dX2_step_11 (fun H locs hP hD hS => ?_)
    have hP : va_P D vwCl (clD o aw ar kI (u.1, u.2.1, u.2.2.1, u.2.2.2.1, u.2.2.2.2.1, (2 : Int32), u.2.2.2.2.2.2)) H := hP
    have hD : va_D A (clD o aw ar kI (u.1, u.2.1, u.2.2.1, u.2.2.2.1, u.2.2.2.2.1, (2 : Int32), u.2.2.2.2.2.2)) := hD
    refine lv_aload_n hx hb dX2_step_14 rfl (lv_at hl 0 rfl) ?_
    obtain ⟨r2, h3, ht⟩ := ob_some ht
    refine kG_i (cl := clD o aw ar kI) (u := (u.1, u.2.1, u.2.2.1, u.2.2.2.1, u.2.2.2.2.1, (2 : Int32), u.2.2.2.2.2.2)) (va_runV (As := []) (rest := []) ⟨hx, hb, hml, hown, hts⟩ (ctD_following l D kI o aw ar H.size (u.1, u.2.1, u.2.2.1, u.2.2.2.1, u.2.2.2.2.1, (2 : Int32), u.2.2.2.2.2.2)  r2 h3) (cwV 0 hts (gV w_m_X2_42 w_im_yX2_following w_sel_yX2_following w_init_MicroMillModel w_co_yX2_following) rfl rfl rfl (by decide +kernel) ⟨Nat.le_trans (Nat.le_of_ble_eq_true rfl) hRf, Nat.le_trans (Nat.le_of_ble_eq_true rfl) hRl⟩) (preG (cl := clD o aw ar kI) (u := (u.1, u.2.1, u.2.2.1, u.2.2.2.1, u.2.2.2.2.1, (2 : Int32), u.2.2.2.2.2.2)) (N := 7) (ci := 2) hK hP (hD.weaken (fun _ _ _ _ => trivial)) rfl rfl _) rfl rfl hl.1 rfl (lv_room (Nat.le_of_ble_eq_true rfl)) dX2_step_15 ⟨Nat.zero_le _, Nat.zero_le _⟩) hD hS hA (fun H locs hP hD hS => ?_)
    refine lv_istore_n (lv' := [(1, .int r2.1), (0, .ref o)]) hx hb dX2_step_18 rfl hl (by decide) rfl (fun ls hl => ?_)
    refine lv_aload_n hx hb dX2_step_19 rfl (lv_at hl 1 rfl) ?_
    refine va_get (D := D) (ci := 2) (v := .int r2.2.2.2.2.1) (C := RX2) (T := TX2) (N := 7) hx hb hts hin0 hown hK hP 0 rfl rfl 3 (by decide) (hw w_f_X2_25) (fun _ h9 => h9) rfl dX2_step_20 ?_
    refine lv_if_le (tgt := 28) hx hb dX2_step_23 (by decide) (fun g4 => ?_) (fun g4 => ?_)
    · have ht := (if_pos g4).symm.trans ht
      refine lv_iload_n hx hb dX2_step_28 rfl (lv_at hl 0 rfl) ?_
      refine lv_bipush (v := (12 : Int32)) hx hb dX2_step_29 (by decide) ?_
      refine lv_ishr hx hb dX2_step_31 ?_
      refine lv_istore_n (lv' := [(2, .int (r2.1 >>> ((12 : Int32) &&& 31))), (1, .int r2.1), (0, .ref o)]) hx hb dX2_step_32 rfl hl (by decide) rfl (fun ls hl => ?_)
      refine lv_iload_n hx hb dX2_step_33 rfl (lv_at hl 1 rfl) ?_
      refine lv_bipush (v := (9 : Int32)) hx hb dX2_step_34 (by decide) ?_
      refine lv_ishr hx hb dX2_step_36 ?_
      refine lv_bipush (v := (63 : Int32)) hx hb dX2_step_37 (by decide) ?_
      refine lv_icmp_ne (tgt := 50) hx hb dX2_step_39 (by decide) (fun g5 => ?_) (fun g5 => ?_)
      · have ht := (if_neg g5).symm.trans ht
        refine lv_iload_n hx hb dX2_step_50 rfl (lv_at hl 0 rfl) ?_
        refine lv_bipush (v := (7 : Int32)) hx hb dX2_step_51 (by decide) ?_
        refine lv_icmp_eq (tgt := 62) hx hb dX2_step_53 (by decide) (fun g6 => ?_) (fun g6 => ?_)
        · have ht := (if_pos g6).symm.trans ht
          exact K62 _ _ _ r2.2 hP hD hS (lv_sub hl [2] rfl) ht
        · have ht := (if_neg g6).symm.trans ht
          refine lv_iload_n hx hb dX2_step_56 rfl (lv_at hl 0 rfl) ?_
          refine lv_bipush (v := (15 : Int32)) hx hb dX2_step_57 (by decide) ?_
          refine lv_icmp_ne (tgt := 70) hx hb dX2_step_59 (by decide) (fun g7 => ?_) (fun g7 => ?_)
          · have ht := (if_neg g7).symm.trans ht
            refine lv_iload_n hx hb dX2_step_70 rfl (lv_at hl 0 rfl) ?_
            refine lv_if_eq (tgt := 80) hx hb dX2_step_71 (by decide) (fun g8 => ?_) (fun g8 => ?_)
            · have ht := (if_pos g8).symm.trans ht
              exact K80 _ _ _ r2.2 r2.1 hP hD hS (lv_sub hl [2, 1] rfl) ht
            · have ht := (if_neg g8).symm.trans ht
              refine lv_iload_n hx hb dX2_step_74 rfl (lv_at hl 0 rfl) ?_
              refine lv_bipush (v := (8 : Int32)) hx hb dX2_step_75 (by decide) ?_
              refine lv_icmp_ne (tgt := 88) hx hb dX2_step_77 (by decide) (fun g9 => ?_) (fun g9 => ?_)
              · have ht := (if_neg g9).symm.trans ht
                refine lv_aload_n hx hb dX2_step_88 rfl (lv_at hl 2 rfl) ?_
                refine lv_iload_n hx hb dX2_step_89 rfl (lv_at hl 1 rfl) ?_
                obtain ⟨r10, h11, ht⟩ := ob_some ht
                refine kG_v (cl := clD o aw ar kI) (u := r2.2) (va_runV (As := [.int r2.1]) (rest := []) ⟨hx, hb, hml, hown, hts⟩ (ctD_doTwo l D kI o aw ar H.size r2.2 r2.1 r10 h11) (cwV 1 hts (gV w_m_X2_105 w_im_yX2_doTwo w_sel_yX2_doTwo w_init_MicroMillModel w_co_yX2_doTwo) rfl rfl rfl (by decide +kernel) ⟨Nat.le_trans (Nat.le_of_ble_eq_true rfl) hRf, Nat.le_trans (Nat.le_of_ble_eq_true rfl) hRl⟩) (preG (cl := clD o aw ar kI) (u := r2.2) (N := 7) (ci := 2) hK hP (hD.weaken (fun _ _ _ _ => trivial)) rfl rfl _) rfl rfl hl.1 rfl (lv_room (Nat.le_of_ble_eq_true rfl)) dX2_step_90 ⟨Nat.zero_le _, Nat.zero_le _⟩) hD hS hA (fun H locs hP hD hS => ?_)
                exact K93 _ _ _ r10.2 hP hD hS (lv_sub hl [2] rfl) ht
              · have ht := (if_pos g9).symm.trans ht
                exact K80 _ _ _ r2.2 r2.1 hP hD hS (lv_sub hl [2, 1] rfl) ht
          · have ht := (if_pos g7).symm.trans ht
            exact K62 _ _ _ r2.2 hP hD hS (lv_sub hl [2] rfl) ht
      · have ht := (if_pos g5).symm.trans ht
        refine lv_aload_n hx hb dX2_step_42 rfl (lv_at hl 2 rfl) ?_
        refine lv_iload_n hx hb dX2_step_43 rfl (lv_at hl 1 rfl) ?_
        obtain ⟨r12, h13, ht⟩ := ob_some ht
        refine kG_v (cl := clD o aw ar kI) (u := r2.2) (va_runV (As := [.int r2.1]) (rest := []) ⟨hx, hb, hml, hown, hts⟩ (ctD_count l D kI o aw ar H.size r2.2 r2.1 r12 h13) (cwV 1 hts (gV w_m_X2_99 w_im_yX2_count w_sel_yX2_count w_init_MicroMillModel w_co_yX2_count) rfl rfl rfl (by decide +kernel) ⟨Nat.le_trans (Nat.le_of_ble_eq_true rfl) hRf, Nat.le_trans (Nat.le_of_ble_eq_true rfl) hRl⟩) (preG (cl := clD o aw ar kI) (u := r2.2) (N := 7) (ci := 2) hK hP (hD.weaken (fun _ _ _ _ => trivial)) rfl rfl _) rfl rfl hl.1 rfl (lv_room (Nat.le_of_ble_eq_true rfl)) dX2_step_44 ⟨Nat.zero_le _, Nat.zero_le _⟩) hD hS hA (fun H locs hP hD hS => ?_)
        refine lv_goto (tgt := 93) hx hb dX2_step_47 (by decide) ?_
        exact K93 _ _ _ r12.2 hP hD hS (lv_sub hl [2] rfl) ht
    · have ht := (if_neg g4).symm.trans ht
      refine lv_iconst (v := (-1 : Int32)) hx hb dX2_step_26 (by decide) ?_
      have e9 := Option.some.inj ht
      subst hQ
      exact W.iret (v := (-1 : Int32)) hx hb hr (fun t ht9 hW => ⟨⟨(-1 : Int32), r2.2, rfl, ⟨pr1 e9, pr2 e9⟩, ⟨by rw [ht9]; exact hP, va_K.moved hW.alike hK, hD⟩⟩, hS.F ht9⟩) hS.2.2 dX2_step_27
  · have ht := (if_neg g1).symm.trans ht
    refine lv_iconst (v := (-1 : Int32)) hx hb dX2_step_7 (by decide) ?_
    have e9 := Option.some.inj ht
    subst hQ
    exact W.iret (v := (-1 : Int32)) hx hb hr (fun t ht9 hW => ⟨⟨(-1 : Int32), u, rfl, ⟨pr1 e9, pr2 e9⟩, ⟨by rw [ht9]; exact hP, va_K.moved hW.alike hK, hD⟩⟩, hS.F ht9⟩) hS.2.2 dX2_step_8
def fnD_run_27 (u : sD) (x2 : Int32) : Option (Int32 × sD) := some (x2, u)
def fnD_run_2 : Nat → sD → Int32 → Int32 → Option (Int32 × sD)
  | 0, _, _, _ => none
  | fk + 1, u, x1, x2 => if x1 ≤ x2 then (fnD_run_27 u x2) else (if (10000 : Int32) ≤ x2 then (fnD_run_27 u x2) else ((fnD_step u).bind (fun r3 => if r3.1 ≤ 0 then (fnD_run_27 r3.2 x2) else (fnD_run_2 fk r3.2 x1 (x2 + (1 : Int32))))))
def fnD_run (fu : Nat) (u : sD) (a1 : Int32) : Option (Int32 × sD) := fnD_run_2 fu u a1 (0 : Int32)
set_option maxRecDepth 100000 in
set_option maxHeartbeats 4000000 in
theorem ctD_run (l : Launch) (D : va_G) (kI : ClassId) (o aw ar : Nat) (sz : Nat) (fu : Nat) (u : sD) (a1 : Int32) (tg : Int32 × sD) (ht : fnD_run fu u a1 = some tg) : Met l yX2_run (Cond.code yX2_run cX2_run 3 (some .int) :: wAll) ({ frames := 6, cells := 0, slots := 0, locals := 142 } : Room) (va_Pc [.ref o, .int a1] (prG D kI (clD o aw ar kI) sz u)) (va_Qi (fun (x : Int32) (v : sD) => x = tg.1 ∧ v = tg.2) (poG D kI (clD o aw ar kI) (va_A (clD o aw ar kI u) sz)) (va_A (clD o aw ar kI u) sz)) 0 0 (va_A (clD o aw ar kI u) sz) := by
  refine mOfW (cc := cX2_run) (maxL := 3) (ret := (some .int)) (by decide) rfl ?_
  intro p e s m args below meth c s₁ Q R hQ hR B hml hv
  obtain ⟨rfl, hsz, hP, hK, hD0⟩ := hv
  have hx := B.exec
  have hb := B.bytes
  have hr := B.returns
  have hts := atoms_spec (ws := Cond.code yX2_run cX2_run 3 (some .int) :: wAll) B.pre
  have hw : ∀ {w : Cond}, w ∈ wAll → w.before _ s = true := fun {w} h => hts w (List.mem_cons_of_mem _ h)
  have hown : s.vm.findClass RX2 = some m.cls := findClass_of_methodNamed B.named
  have hlocks := B.notSynchronized
  have hRf : 6 ≤ R.frames := by rw [hR]; exact Nat.le_refl _
  have hRl : 142 ≤ R.locals := by rw [hR]; exact Nat.le_refl _
  subst hsz
  have hD := hD0.self (sz := s.heap.size)
  generalize hAe : va_A (clD o aw ar kI u) s.heap.size = A at hD  hQ
  have hA : ∀ q : Nat, s.heap.size ≤ q → A q := fun q h => by rw [← hAe]; exact Or.inr h
  have hl := lv_entry ([.ref o, .int a1]) (n := 3) (Nat.le_of_ble_eq_true rfl)
  rw [lg_entry_eq]
  generalize (lg_sl ([.ref o, .int a1]) ++ List.replicate (3 - (lg_sl ([.ref o, .int a1])).length) Slot.unset).toArray = ls at hl ⊢
  have hl : lv_has ls 3 [(0, .ref o), (1, .int a1)] := hl
  have K27 : ∀ (H : Heap) (locs : List Loc) (ls : Array Slot) (u : sD) (x2 : Int32) , va_P D vwCl (clD o aw ar kI u) H → va_D A (clD o aw ar kI u) → va_S A s.heap H locs → lv_has ls 3 [(2, .int x2)] → fnD_run_27 u x2 = some tg → W p l e R s m ([.ref o, .int a1] : List Value).toArray below meth c H locs 0 0 Q (F0 m 27 ls []) := by
    intro H locs ls u x2 hP hD hS hl ht
    unfold fnD_run_27 at ht
    refine lv_iload_n hx hb dX2_run_27 rfl (lv_at hl 0 rfl) ?_
    have e9 := Option.some.inj ht
    subst hQ
    exact W.iret (v := x2) hx hb hr (fun t ht9 hW => ⟨⟨x2, u, rfl, ⟨pr1 e9, pr2 e9⟩, ⟨by rw [ht9]; exact hP, va_K.moved hW.alike hK, hD⟩⟩, hS.F ht9⟩) hS.2.2 dX2_run_28
  have K2 : ∀ (fu : Nat) (H : Heap) (locs : List Loc) (ls : Array Slot) (u : sD) (x1 : Int32) (x2 : Int32) , va_P D vwCl (clD o aw ar kI u) H → va_D A (clD o aw ar kI u) → va_S A s.heap H locs → lv_has ls 3 [(0, .ref o), (1, .int x1), (2, .int x2)] → fnD_run_2 fu u x1 x2 = some tg → W p l e R s m ([.ref o, .int a1] : List Value).toArray below meth c H locs 0 0 Q (F0 m 2 ls []) := by
    intro fu
    induction fu with
    | zero => intro H locs ls u x1 x2 hP hD hS hl ht; cases ht
    | succ fk ih =>
      intro H locs ls u x1 x2 hP hD hS hl ht
      unfold fnD_run_2 at ht
      refine lv_iload_n hx hb dX2_run_2 rfl (lv_at hl 2 rfl) ?_
      refine lv_iload_n hx hb dX2_run_3 rfl (lv_at hl 1 rfl) ?_
      refine lv_icmp_ge (tgt := 27) hx hb dX2_run_4 (by decide) (fun g1 => ?_) (fun g1 => ?_)
      · have ht := (if_pos g1).symm.trans ht
        exact K27 _ _ _ u x2 hP hD hS (lv_sub hl [2] rfl) ht
      · have ht := (if_neg g1).symm.trans ht
        refine lv_iload_n hx hb dX2_run_7 rfl (lv_at hl 2 rfl) ?_
        refine lv_sipush (v := (10000 : Int32)) hx hb dX2_run_8 (by decide) ?_
        refine lv_icmp_ge (tgt := 27) hx hb dX2_run_11 (by decide) (fun g2 => ?_) (fun g2 => ?_)
        · have ht := (if_pos g2).symm.trans ht
          exact K27 _ _ _ u x2 hP hD hS (lv_sub hl [2] rfl) ht
        · have ht := (if_neg g2).symm.trans ht
          refine lv_aload_n hx hb dX2_run_14 rfl (lv_at hl 0 rfl) ?_
          obtain ⟨r3, h4, ht⟩ := ob_some ht
          refine kG_i (cl := clD o aw ar kI) (u := u) (va_runV (As := []) (rest := []) ⟨hx, hb, hml, hown, hts⟩ (ctD_step l D kI o aw ar H.size u  r3 h4) (cwV 0 hts (gV w_m_X2_108 w_im_yX2_step w_sel_yX2_step w_init_MicroMillModel w_co_yX2_step) rfl rfl rfl (by decide +kernel) ⟨Nat.le_trans (Nat.le_of_ble_eq_true rfl) hRf, Nat.le_trans (Nat.le_of_ble_eq_true rfl) hRl⟩) (preG (cl := clD o aw ar kI) (u := u) (N := 7) (ci := 2) hK hP (hD.weaken (fun _ _ _ _ => trivial)) rfl rfl _) rfl rfl hl.1 rfl (lv_room (Nat.le_of_ble_eq_true rfl)) dX2_run_15 ⟨Nat.zero_le _, Nat.zero_le _⟩) hD hS hA (fun H locs hP hD hS => ?_)
          refine lv_if_le (tgt := 27) hx hb dX2_run_18 (by decide) (fun g5 => ?_) (fun g5 => ?_)
          · have ht := (if_pos g5).symm.trans ht
            exact K27 _ _ _ r3.2 x2 hP hD hS (lv_sub hl [2] rfl) ht
          · have ht := (if_neg g5).symm.trans ht
            refine lv_iinc (v := (x2 + (1 : Int32))) (lv' := [(2, .int (x2 + (1 : Int32))), (0, .ref o), (1, .int x1)]) hx hb dX2_run_21 hl (k := 2) rfl (by rfl) (by decide) rfl (fun ls hl => ?_)
            refine lv_goto (tgt := 2) hx hb dX2_run_24 (by decide) ?_
            exact ih _ _ _ r3.2 x1 (x2 + (1 : Int32)) hP hD hS (lv_sub hl [1, 2, 0] rfl) ht
  unfold fnD_run at ht
  obtain ⟨H, hHe⟩ : ∃ H : Heap, H = s.heap := ⟨_, rfl⟩
  have hP : va_P D vwCl (clD o aw ar kI u) H := by rw [hHe]; exact hP
  have hS : va_S A s.heap H [] := by rw [hHe]; exact va_S.rf
  rw [← hHe]
  refine lv_iconst (v := (0 : Int32)) hx hb dX2_run_0 (by decide) ?_
  refine lv_istore_n (lv' := [(2, .int (0 : Int32)), (0, .ref o), (1, .int a1)]) hx hb dX2_run_1 rfl hl (by decide) rfl (fun ls hl => ?_)
  exact K2 fu _ _ _ u a1 (0 : Int32) hP hD hS (lv_sub hl [1, 2, 0] rfl) ht
def fnD_set_10 (u : sD) : Option (Int32 × sD) := some ((0 : Int32), u)
def fnD_set (u : sD) (a1 : Int32) (a2 : Int32) : Option (Int32 × sD) := if a1 < 0 then (fnD_set_10 u) else (if a1 ≤ (7 : Int32) then (if ixk a1 8 then (some ((1 : Int32), (u.1, (upd u.2.1 a1.toNatClampNeg (a2 &&& (65535 : Int32))), u.2.2.1, u.2.2.2.1, u.2.2.2.2.1, u.2.2.2.2.2.1, u.2.2.2.2.2.2))) else none) else (fnD_set_10 u))
set_option maxRecDepth 100000 in
set_option maxHeartbeats 4000000 in
theorem ctD_set (l : Launch) (D : va_G) (kI : ClassId) (o aw ar : Nat) (sz : Nat) (u : sD) (a1 : Int32) (a2 : Int32) (tg : Int32 × sD) (ht : fnD_set u a1 a2 = some tg) : Met l yX2_set (Cond.code yX2_set cX2_set 3 (some .boolean) :: wAll) ({ frames := 0, cells := 0, slots := 0, locals := 0 } : Room) (va_Pc [.ref o, .int a1, .int a2] (prG D kI (clD o aw ar kI) sz u)) (va_Qi (fun (x : Int32) (v : sD) => x = tg.1 ∧ v = tg.2) (poG D kI (clD o aw ar kI) (va_A (clD o aw ar kI u) sz)) (va_A (clD o aw ar kI u) sz)) 0 0 (va_A (clD o aw ar kI u) sz) := by
  refine mOfW (cc := cX2_set) (maxL := 3) (ret := (some .boolean)) (by decide) rfl ?_
  intro p e s m args below meth c s₁ Q R hQ hR B hml hv
  obtain ⟨rfl, hsz, hP, hK, hD0⟩ := hv
  have hx := B.exec
  have hb := B.bytes
  have hr := B.returns
  have hts := atoms_spec (ws := Cond.code yX2_set cX2_set 3 (some .boolean) :: wAll) B.pre
  have hw : ∀ {w : Cond}, w ∈ wAll → w.before _ s = true := fun {w} h => hts w (List.mem_cons_of_mem _ h)
  have hown : s.vm.findClass RX2 = some m.cls := findClass_of_methodNamed B.named
  have hlocks := B.notSynchronized
  have hRf : 0 ≤ R.frames := by rw [hR]; exact Nat.le_refl _
  have hRl : 0 ≤ R.locals := by rw [hR]; exact Nat.le_refl _
  subst hsz
  have hD := hD0.self (sz := s.heap.size)
  generalize hAe : va_A (clD o aw ar kI u) s.heap.size = A at hD  hQ
  have hA : ∀ q : Nat, s.heap.size ≤ q → A q := fun q h => by rw [← hAe]; exact Or.inr h
  have hl := lv_entry ([.ref o, .int a1, .int a2]) (n := 3) (Nat.le_of_ble_eq_true rfl)
  rw [lg_entry_eq]
  generalize (lg_sl ([.ref o, .int a1, .int a2]) ++ List.replicate (3 - (lg_sl ([.ref o, .int a1, .int a2])).length) Slot.unset).toArray = ls at hl ⊢
  have hl : lv_has ls 3 [(0, .ref o), (1, .int a1), (2, .int a2)] := hl
  have hin0 : ∀ w ∈ u_ws RX2 TX2 7, w ∈ (Cond.code yX2_set cX2_set 3 (some .boolean) :: wAll) := fun w h => List.mem_cons_of_mem _ (w_flX2 w h)
  have K10 : ∀ (H : Heap) (locs : List Loc) (ls : Array Slot) (u : sD) , va_P D vwCl (clD o aw ar kI u) H → va_D A (clD o aw ar kI u) → va_S A s.heap H locs → lv_has ls 3 [] → fnD_set_10 u  = some tg → W p l e R s m ([.ref o, .int a1, .int a2] : List Value).toArray below meth c H locs 0 0 Q (F0 m 10 ls []) := by
    intro H locs ls u  hP hD hS hl ht
    unfold fnD_set_10 at ht
    refine lv_iconst (v := (0 : Int32)) hx hb dX2_set_10 (by decide) ?_
    have e9 := Option.some.inj ht
    subst hQ
    exact W.zret (ty := .boolean) (v := (0 : Int32)) hx hb hr (by decide) (fun t ht9 hW => ⟨⟨(0 : Int32), u, rfl, ⟨pr1 e9, pr2 e9⟩, ⟨by rw [ht9]; exact hP, va_K.moved hW.alike hK, hD⟩⟩, hS.F ht9⟩) hS.2.2 dX2_set_11
  unfold fnD_set at ht
  obtain ⟨H, hHe⟩ : ∃ H : Heap, H = s.heap := ⟨_, rfl⟩
  have hP : va_P D vwCl (clD o aw ar kI u) H := by rw [hHe]; exact hP
  have hS : va_S A s.heap H [] := by rw [hHe]; exact va_S.rf
  rw [← hHe]
  refine lv_iload_n hx hb dX2_set_0 rfl (lv_at hl 1 rfl) ?_
  refine lv_if_lt (tgt := 10) hx hb dX2_set_1 (by decide) (fun g1 => ?_) (fun g1 => ?_)
  · have ht := (if_pos g1).symm.trans ht
    exact K10 _ _ _ u hP hD hS (lv_sub hl [] rfl) ht
  · have ht := (if_neg g1).symm.trans ht
    refine lv_iload_n hx hb dX2_set_4 rfl (lv_at hl 1 rfl) ?_
    refine lv_bipush (v := (7 : Int32)) hx hb dX2_set_5 (by decide) ?_
    refine lv_icmp_le (tgt := 12) hx hb dX2_set_7 (by decide) (fun g2 => ?_) (fun g2 => ?_)
    · have ht := (if_pos g2).symm.trans ht
      refine lv_aload_n hx hb dX2_set_12 rfl (lv_at hl 0 rfl) ?_
      refine va_get (D := D) (ci := 2) (v := .ref ar) (C := RX2) (T := TX2) (N := 7) hx hb hts hin0 hown hK hP 0 rfl rfl 1 (by decide) (hw w_f_X2_13) (fun _ h9 => h9) rfl dX2_set_13 ?_
      refine lv_iload_n hx hb dX2_set_16 rfl (lv_at hl 1 rfl) ?_
      refine lv_iload_n hx hb dX2_set_17 rfl (lv_at hl 2 rfl) ?_
      refine lv_ldc (v := (65535 : Int32)) hx hb hown (hw w_k_X2_16) dX2_set_18 ?_
      refine lv_iand hx hb dX2_set_20 ?_
      obtain ⟨b3, ht⟩ := oi_some ht
      refine va_iast hx hb hK hP hD hS 2 0 rfl rfl (ixk_in b3) dX2_set_21 (fun H locs hP hD hS => ?_)
      have hP : va_P D vwCl (clD o aw ar kI (u.1, (upd u.2.1 a1.toNatClampNeg (a2 &&& (65535 : Int32))), u.2.2.1, u.2.2.2.1, u.2.2.2.2.1, u.2.2.2.2.2.1, u.2.2.2.2.2.2)) H := hP
      have hD : va_D A (clD o aw ar kI (u.1, (upd u.2.1 a1.toNatClampNeg (a2 &&& (65535 : Int32))), u.2.2.1, u.2.2.2.1, u.2.2.2.2.1, u.2.2.2.2.2.1, u.2.2.2.2.2.2)) := hD
      refine lv_iconst (v := (1 : Int32)) hx hb dX2_set_22 (by decide) ?_
      have e9 := Option.some.inj ht
      subst hQ
      exact W.zret (ty := .boolean) (v := (1 : Int32)) hx hb hr (by decide) (fun t ht9 hW => ⟨⟨(1 : Int32), (u.1, (upd u.2.1 a1.toNatClampNeg (a2 &&& (65535 : Int32))), u.2.2.1, u.2.2.2.1, u.2.2.2.2.1, u.2.2.2.2.2.1, u.2.2.2.2.2.2), rfl, ⟨pr1 e9, pr2 e9⟩, ⟨by rw [ht9]; exact hP, va_K.moved hW.alike hK, hD⟩⟩, hS.F ht9⟩) hS.2.2 dX2_set_23
    · have ht := (if_neg g2).symm.trans ht
      exact K10 _ _ _ u hP hD hS (lv_sub hl [] rfl) ht
def fnD_stopped (u : sD) : Option (Int32 × sD) := some (u.2.2.2.1, u)
set_option maxRecDepth 100000 in
set_option maxHeartbeats 4000000 in
theorem ctD_stopped (l : Launch) (D : va_G) (kI : ClassId) (o aw ar : Nat) (sz : Nat) (u : sD) (tg : Int32 × sD) (ht : fnD_stopped u  = some tg) : Met l yX2_stopped (Cond.code yX2_stopped cX2_stopped 1 (some .int) :: wAll) ({ frames := 0, cells := 0, slots := 0, locals := 0 } : Room) (va_Pc [.ref o] (prG D kI (clD o aw ar kI) sz u)) (va_Qi (fun (x : Int32) (v : sD) => x = tg.1 ∧ v = tg.2) (poG D kI (clD o aw ar kI) (va_A (clD o aw ar kI u) sz)) (va_A (clD o aw ar kI u) sz)) 0 0 (va_A (clD o aw ar kI u) sz) := by
  refine mOfW (cc := cX2_stopped) (maxL := 1) (ret := (some .int)) (by decide) rfl ?_
  intro p e s m args below meth c s₁ Q R hQ hR B hml hv
  obtain ⟨rfl, hsz, hP, hK, hD0⟩ := hv
  have hx := B.exec
  have hb := B.bytes
  have hr := B.returns
  have hts := atoms_spec (ws := Cond.code yX2_stopped cX2_stopped 1 (some .int) :: wAll) B.pre
  have hw : ∀ {w : Cond}, w ∈ wAll → w.before _ s = true := fun {w} h => hts w (List.mem_cons_of_mem _ h)
  have hown : s.vm.findClass RX2 = some m.cls := findClass_of_methodNamed B.named
  have hlocks := B.notSynchronized
  have hRf : 0 ≤ R.frames := by rw [hR]; exact Nat.le_refl _
  have hRl : 0 ≤ R.locals := by rw [hR]; exact Nat.le_refl _
  subst hsz
  have hD := hD0.self (sz := s.heap.size)
  generalize hAe : va_A (clD o aw ar kI u) s.heap.size = A at hD  hQ
  have hA : ∀ q : Nat, s.heap.size ≤ q → A q := fun q h => by rw [← hAe]; exact Or.inr h
  have hl := lv_entry ([.ref o]) (n := 1) (Nat.le_of_ble_eq_true rfl)
  rw [lg_entry_eq]
  generalize (lg_sl ([.ref o]) ++ List.replicate (1 - (lg_sl ([.ref o])).length) Slot.unset).toArray = ls at hl ⊢
  have hl : lv_has ls 1 [(0, .ref o)] := hl
  have hin0 : ∀ w ∈ u_ws RX2 TX2 7, w ∈ (Cond.code yX2_stopped cX2_stopped 1 (some .int) :: wAll) := fun w h => List.mem_cons_of_mem _ (w_flX2 w h)
  unfold fnD_stopped at ht
  obtain ⟨H, hHe⟩ : ∃ H : Heap, H = s.heap := ⟨_, rfl⟩
  have hP : va_P D vwCl (clD o aw ar kI u) H := by rw [hHe]; exact hP
  have hS : va_S A s.heap H [] := by rw [hHe]; exact va_S.rf
  rw [← hHe]
  refine lv_aload_n hx hb dX2_stopped_0 rfl (lv_at hl 0 rfl) ?_
  refine va_get (D := D) (ci := 2) (v := .int u.2.2.2.1) (C := RX2) (T := TX2) (N := 7) hx hb hts hin0 hown hK hP 0 rfl rfl 3 (by decide) (hw w_f_X2_25) (fun _ h9 => h9) rfl dX2_stopped_1 ?_
  have e9 := Option.some.inj ht
  subst hQ
  exact W.iret (v := u.2.2.2.1) hx hb hr (fun t ht9 hW => ⟨⟨u.2.2.2.1, u, rfl, ⟨pr1 e9, pr2 e9⟩, ⟨by rw [ht9]; exact hP, va_K.moved hW.alike hK, hD⟩⟩, hS.F ht9⟩) hS.2.2 dX2_stopped_4
