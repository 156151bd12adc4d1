def fnD_one_275 (u : sD) (x3 : Int32) (x7 : Int32) (x8 : Int32) (y0 : Int32) : Option (Int32 × sD) := (fnD_tell u x7 x3 x8 y0).bind (fun r27 => some (x7, r27.2))
def fnD_one_274 (u : sD) (x3 : Int32) (x7 : Int32) (x8 : Int32) : Option (Int32 × sD) := fnD_one_275 u x3 x7 x8 (0 : Int32)
def fnD_one_270 (u : sD) (x3 : Int32) (x7 : Int32) (x8 : Int32) : Option (Int32 × sD) := fnD_one_275 u x3 x7 x8 (1 : Int32)
def fnD_one_255 (u : sD) (x1 : Int32) (x2 : Int32) (x3 : Int32) (x5 : Int32) (x7 : Int32) (x8 : Int32) : Option (Int32 × sD) := if x1 = (6 : Int32) then (if x5 = 0 then (fnD_one_274 u x3 x7 x8) else (if x2 = 0 then (fnD_one_270 u x3 x7 x8) else (fnD_one_274 u x3 x7 x8))) else (fnD_one_274 u x3 x7 x8)
def fnD_one_240 (u : sD) (x1 : Int32) (x2 : Int32) (x3 : Int32) (x5 : Int32) (x7 : Int32) (x8 : Int32) : Option (Int32 × sD) := if x1 = (5 : Int32) then (if x5 = 0 then (fnD_one_255 u x1 x2 x3 x5 x7 x8) else (if x7 = 0 then (fnD_one_270 u x3 x7 x8) else (fnD_one_255 u x1 x2 x3 x5 x7 x8))) else (fnD_one_255 u x1 x2 x3 x5 x7 x8)
def fnD_one_230 (u : sD) (x1 : Int32) (x2 : Int32) (x3 : Int32) (x5 : Int32) (x7 : Int32) (x8 : Int32) : Option (Int32 × sD) := if x1 = (4 : Int32) then (if x7 = 0 then (fnD_one_240 u x1 x2 x3 x5 x7 x8) else (fnD_one_270 u x3 x7 x8)) else (fnD_one_240 u x1 x2 x3 x5 x7 x8)
def fnD_one_225 (u : sD) (x1 : Int32) (x2 : Int32) (x3 : Int32) (x5 : Int32) (x7 : Int32) (x8 : Int32) : Option (Int32 × sD) := if x5 = 0 then (fnD_one_230 u x1 x2 x3 x5 x7 x8) else (fnD_one_270 u x3 x7 x8)
def fnD_one_208 (u : sD) (x1 : Int32) (x2 : Int32) (x3 : Int32) (x5 : Int32) (x7 : Int32) (y0 : Int32) : Option (Int32 × sD) := if x1 = (1 : Int32) then (fnD_one_270 u x3 x7 y0) else (if x1 = (2 : Int32) then (fnD_one_225 u x1 x2 x3 x5 x7 y0) else (if x1 = (3 : Int32) then (fnD_one_225 u x1 x2 x3 x5 x7 y0) else (fnD_one_230 u x1 x2 x3 x5 x7 y0)))
def fnD_one_207 (u : sD) (x1 : Int32) (x2 : Int32) (x3 : Int32) (x5 : Int32) (x7 : Int32) : Option (Int32 × sD) := fnD_one_208 u x1 x2 x3 x5 x7 (0 : Int32)
def fnD_one_183 (u : sD) (x1 : Int32) (x2 : Int32) (x3 : Int32) (x5 : Int32) (x7 : Int32) : Option (Int32 × sD) := fnD_one_208 u x1 x2 x3 x5 x7 (0 : Int32)
def fnD_one_131 (u : sD) (x1 : Int32) (x2 : Int32) (x3 : Int32) (x5 : Int32) (x7 : Int32) : Option (Int32 × sD) := if x7 = x3 then (fnD_one_208 u x1 x2 x3 x5 x7 (1 : Int32)) else (fnD_one_208 u x1 x2 x3 x5 x7 (0 : Int32))
def fnD_one_112 (u : sD) (x1 : Int32) (x2 : Int32) (x3 : Int32) (x4 : Int32) (x5 : Int32) (y0 : Int32) : Option (Int32 × sD) := if x1 = (2 : Int32) then (fnD_one_131 u x1 x2 x3 x5 (y0 &&& x4)) else (if x1 = (4 : Int32) then (fnD_one_131 u x1 x2 x3 x5 (y0 &&& x4)) else (if x1 = (3 : Int32) then (if x2 = x3 then (fnD_one_208 u x1 x2 x3 x5 (y0 &&& x4) (1 : Int32)) else (fnD_one_208 u x1 x2 x3 x5 (y0 &&& x4) (0 : Int32))) else (if x1 = (5 : Int32) then (if x5 = 0 then (fnD_one_183 u x1 x2 x3 x5 (y0 &&& x4)) else (if (y0 &&& x4) = x3 then (fnD_one_208 u x1 x2 x3 x5 (y0 &&& x4) (1 : Int32)) else (fnD_one_183 u x1 x2 x3 x5 (y0 &&& x4)))) else (if x1 = (6 : Int32) then (if x5 = 0 then (fnD_one_207 u x1 x2 x3 x5 (y0 &&& x4)) else (if x2 = x3 then (fnD_one_208 u x1 x2 x3 x5 (y0 &&& x4) (1 : Int32)) else (fnD_one_207 u x1 x2 x3 x5 (y0 &&& x4)))) else (fnD_one_207 u x1 x2 x3 x5 (y0 &&& x4))))))
def fnD_one_33 (u : sD) (x1 : Int32) (x2 : Int32) (x3 : Int32) (x4 : Int32) (x5 : Int32) (y0 : Int32) : Option (Int32 × sD) := if x1 = 0 then (fnD_one_112 u x1 x2 x3 x4 x5 (0 : Int32)) else (if x1 = (1 : Int32) then (fnD_one_112 u x1 x2 x3 x4 x5 (x2 ^^^ (-1 : Int32))) else (if x1 = (2 : Int32) then (fnD_one_112 u x1 x2 x3 x4 x5 (x2 + (1 : Int32))) else (if x1 = (3 : Int32) then (fnD_one_112 u x1 x2 x3 x4 x5 (x2 - (1 : Int32))) else (if x1 = (4 : Int32) then (fnD_one_112 u x1 x2 x3 x4 x5 (-x2)) else (if x1 = (5 : Int32) then (fnD_one_112 u x1 x2 x3 x4 x5 (x2 + y0)) else (if x1 = (6 : Int32) then (fnD_one_112 u x1 x2 x3 x4 x5 (x2 - y0)) else (fnD_one_112 u x1 x2 x3 x4 x5 x2)))))))
def fnD_one_21 (u : sD) (x1 : Int32) (x2 : Int32) (x3 : Int32) (x4 : Int32) (y0 : Int32) : Option (Int32 × sD) := if y0 = 0 then (fnD_one_33 u x1 x2 x3 x4 y0 (0 : Int32)) else (fnD_one_33 u x1 x2 x3 x4 y0 (1 : Int32))
def fnD_one (u : sD) (a1 : Int32) (a2 : Int32) (a3 : Int32) : Option (Int32 × sD) := if (u.2.2.1 &&& (1 : Int32)) = 0 then (fnD_one_21 u a1 a2 a3 (((2 : Int32) * a3) - (1 : Int32)) (0 : Int32)) else (fnD_one_21 u a1 a2 a3 (((2 : Int32) * a3) - (1 : Int32)) (1 : Int32))
set_option maxRecDepth 100000 in
set_option maxHeartbeats 4000000 in
theorem ctD_one (l : Launch) (D : va_G) (kI : ClassId) (o aw ar : Nat) (sz : Nat) (u : sD) (a1 : Int32) (a2 : Int32) (a3 : Int32) (tg : Int32 × sD) (ht : fnD_one u a1 a2 a3 = some tg) : Met l yX2_one (Cond.code yX2_one cX2_one 10 (some .int) :: wAll) ({ frames := 1, cells := 0, slots := 0, locals := 24 } : Room) (va_Pc [.ref o, .int a1, .int a2, .int a3] (prG D kI (clD o aw ar kI) sz u)) (va_Qi (fun (x : Int32) (v : sD) => x = tg.1 ∧ v = tg.2) (poG D kI (clD o aw ar kI) (va_A (clD o aw ar kI u) sz)) (va_A (clD o aw ar kI u) sz)) 0 0 (va_A (clD o aw ar kI u) sz) := by
  refine mOfW (cc := cX2_one) (maxL := 10) (ret := (some .int)) (by decide) rfl ?_
  intro p e s m args below meth c s₁ Q R hQ hR B hml hv
  obtain ⟨rfl, hsz, hP, hK, hD0⟩ := hv
  have hx := B.exec
  have hb := B.bytes
  have hr := B.returns
  have hts := atoms_spec (ws := Cond.code yX2_one cX2_one 10 (some .int) :: wAll) B.pre
  have hw : ∀ {w : Cond}, w ∈ wAll → w.before _ s = true := fun {w} h => hts w (List.mem_cons_of_mem _ h)
  have hown : s.vm.findClass RX2 = some m.cls := findClass_of_methodNamed B.named
  have hlocks := B.notSynchronized
  have hRf : 1 ≤ R.frames := by rw [hR]; exact Nat.le_refl _
  have hRl : 24 ≤ R.locals := by rw [hR]; exact Nat.le_refl _
  subst hsz
  have hD := hD0.self (sz := s.heap.size)
  generalize hAe : va_A (clD o aw ar kI u) s.heap.size = A at hD  hQ
  have hA : ∀ q : Nat, s.heap.size ≤ q → A q := fun q h => by rw [← hAe]; exact Or.inr h
  have hl := lv_entry ([.ref o, .int a1, .int a2, .int a3]) (n := 10) (Nat.le_of_ble_eq_true rfl)
  rw [lg_entry_eq]
  generalize (lg_sl ([.ref o, .int a1, .int a2, .int a3]) ++ List.replicate (10 - (lg_sl ([.ref o, .int a1, .int a2, .int a3])).length) Slot.unset).toArray = ls at hl ⊢
  have hl : lv_has ls 10 [(0, .ref o), (1, .int a1), (2, .int a2), (3, .int a3)] := hl
  have hin0 : ∀ w ∈ u_ws RX2 TX2 7, w ∈ (Cond.code yX2_one cX2_one 10 (some .int) :: wAll) := fun w h => List.mem_cons_of_mem _ (w_flX2 w h)
  have K275 : ∀ (H : Heap) (locs : List Loc) (ls : Array Slot) (u : sD) (x3 : Int32) (x7 : Int32) (x8 : Int32) (y0 : Int32) , va_P D vwCl (clD o aw ar kI u) H → va_D A (clD o aw ar kI u) → va_S A s.heap H locs → lv_has ls 10 [(0, .ref o), (3, .int x3), (7, .int x7), (8, .int x8)] → fnD_one_275 u x3 x7 x8 y0 = some tg → W p l e R s m ([.ref o, .int a1, .int a2, .int a3] : List Value).toArray below meth c H locs 0 0 Q (F0 m 275 ls [.int y0]) := by
    intro H locs ls u x3 x7 x8 y0 hP hD hS hl ht
    unfold fnD_one_275 at ht
    refine lv_istore (lv' := [(9, .int y0), (0, .ref o), (3, .int x3), (7, .int x7), (8, .int x8)]) hx hb dX2_one_275 hl (by decide) rfl (fun ls hl => ?_)
    refine lv_aload_n hx hb dX2_one_277 rfl (lv_at hl 1 rfl) ?_
    refine lv_iload hx hb dX2_one_278 (lv_at hl 3 rfl) ?_
    refine lv_iload_n hx hb dX2_one_280 rfl (lv_at hl 2 rfl) ?_
    refine lv_iload hx hb dX2_one_281 (lv_at hl 4 rfl) ?_
    refine lv_iload hx hb dX2_one_283 (lv_at hl 0 rfl) ?_
    obtain ⟨r27, h28, ht⟩ := ob_some ht
    refine kG_v (cl := clD o aw ar kI) (u := u) (va_runV (As := [.int x7, .int x3, .int x8, .int y0]) (rest := []) ⟨hx, hb, hml, hown, hts⟩ (ctD_tell l D kI o aw ar H.size u x7 x3 x8 y0 r27 h28) (cwV 4 hts (gV w_m_X2_50 w_im_yX2_tell w_sel_yX2_tell w_init_MicroMillModel w_co_yX2_tell) rfl rfl rfl (by decide +kernel) ⟨Nat.le_trans (Nat.le_of_ble_eq_true rfl) hRf, Nat.le_trans (Nat.le_of_ble_eq_true rfl) hRl⟩) (preG (cl := clD o aw ar kI) (u := u) (N := 7) (ci := 2) hK hP (hD.weaken (fun _ _ _ _ => trivial)) rfl rfl _) rfl rfl hl.1 rfl (lv_room (Nat.le_of_ble_eq_true rfl)) dX2_one_285 ⟨Nat.zero_le _, Nat.zero_le _⟩) hD hS hA (fun H locs hP hD hS => ?_)
    refine lv_iload hx hb dX2_one_288 (lv_at hl 3 rfl) ?_
    have e9 := Option.some.inj ht
    subst hQ
    exact W.iret (v := x7) hx hb hr (fun t ht9 hW => ⟨⟨x7, r27.2, rfl, ⟨pr1 e9, pr2 e9⟩, ⟨by rw [ht9]; exact hP, va_K.moved hW.alike hK, hD⟩⟩, hS.F ht9⟩) hS.2.2 dX2_one_290
  have K274 : ∀ (H : Heap) (locs : List Loc) (ls : Array Slot) (u : sD) (x3 : Int32) (x7 : Int32) (x8 : Int32) , va_P D vwCl (clD o aw ar kI u) H → va_D A (clD o aw ar kI u) → va_S A s.heap H locs → lv_has ls 10 [(0, .ref o), (3, .int x3), (7, .int x7), (8, .int x8)] → fnD_one_274 u x3 x7 x8 = some tg → W p l e R s m ([.ref o, .int a1, .int a2, .int a3] : List Value).toArray below meth c H locs 0 0 Q (F0 m 274 ls []) := by
    intro H locs ls u x3 x7 x8 hP hD hS hl ht
    unfold fnD_one_274 at ht
    refine lv_iconst (v := (0 : Int32)) hx hb dX2_one_274 (by decide) ?_
    exact K275 _ _ _ u x3 x7 x8 (0 : Int32) hP hD hS (lv_sub hl [0, 1, 2, 3] rfl) ht
  have K270 : ∀ (H : Heap) (locs : List Loc) (ls : Array Slot) (u : sD) (x3 : Int32) (x7 : Int32) (x8 : Int32) , va_P D vwCl (clD o aw ar kI u) H → va_D A (clD o aw ar kI u) → va_S A s.heap H locs → lv_has ls 10 [(0, .ref o), (3, .int x3), (7, .int x7), (8, .int x8)] → fnD_one_270 u x3 x7 x8 = some tg → W p l e R s m ([.ref o, .int a1, .int a2, .int a3] : List Value).toArray below meth c H locs 0 0 Q (F0 m 270 ls []) := by
    intro H locs ls u x3 x7 x8 hP hD hS hl ht
    unfold fnD_one_270 at ht
    refine lv_iconst (v := (1 : Int32)) hx hb dX2_one_270 (by decide) ?_
    refine lv_goto (tgt := 275) hx hb dX2_one_271 (by decide) ?_
    exact K275 _ _ _ u x3 x7 x8 (1 : Int32) hP hD hS (lv_sub hl [0, 1, 2, 3] rfl) ht
  have K255 : ∀ (H : Heap) (locs : List Loc) (ls : Array Slot) (u : sD) (x1 : Int32) (x2 : Int32) (x3 : Int32) (x5 : Int32) (x7 : Int32) (x8 : Int32) , va_P D vwCl (clD o aw ar kI u) H → va_D A (clD o aw ar kI u) → va_S A s.heap H locs → lv_has ls 10 [(0, .ref o), (1, .int x1), (2, .int x2), (3, .int x3), (5, .int x5), (7, .int x7), (8, .int x8)] → fnD_one_255 u x1 x2 x3 x5 x7 x8 = some tg → W p l e R s m ([.ref o, .int a1, .int a2, .int a3] : List Value).toArray below meth c H locs 0 0 Q (F0 m 255 ls []) := by
    intro H locs ls u x1 x2 x3 x5 x7 x8 hP hD hS hl ht
    unfold fnD_one_255 at ht
    refine lv_iload_n hx hb dX2_one_255 rfl (lv_at hl 1 rfl) ?_
    refine lv_bipush (v := (6 : Int32)) hx hb dX2_one_256 (by decide) ?_
    refine lv_icmp_ne (tgt := 274) hx hb dX2_one_258 (by decide) (fun g32 => ?_) (fun g32 => ?_)
    · have ht := (if_neg g32).symm.trans ht
      exact K274 _ _ _ u x3 x7 x8 hP hD hS (lv_sub hl [0, 3, 5, 6] rfl) ht
    · have ht := (if_pos g32).symm.trans ht
      refine lv_iload hx hb dX2_one_261 (lv_at hl 4 rfl) ?_
      refine lv_if_eq (tgt := 274) hx hb dX2_one_263 (by decide) (fun g33 => ?_) (fun g33 => ?_)
      · have ht := (if_pos g33).symm.trans ht
        exact K274 _ _ _ u x3 x7 x8 hP hD hS (lv_sub hl [0, 3, 5, 6] rfl) ht
      · have ht := (if_neg g33).symm.trans ht
        refine lv_iload_n hx hb dX2_one_266 rfl (lv_at hl 2 rfl) ?_
        refine lv_if_ne (tgt := 274) hx hb dX2_one_267 (by decide) (fun g34 => ?_) (fun g34 => ?_)
        · have ht := (if_neg g34).symm.trans ht
          exact K274 _ _ _ u x3 x7 x8 hP hD hS (lv_sub hl [0, 3, 5, 6] rfl) ht
        · have ht := (if_pos g34).symm.trans ht
          exact K270 _ _ _ u x3 x7 x8 hP hD hS (lv_sub hl [0, 3, 5, 6] rfl) ht
  have K240 : ∀ (H : Heap) (locs : List Loc) (ls : Array Slot) (u : sD) (x1 : Int32) (x2 : Int32) (x3 : Int32) (x5 : Int32) (x7 : Int32) (x8 : Int32) , va_P D vwCl (clD o aw ar kI u) H → va_D A (clD o aw ar kI u) → va_S A s.heap H locs → lv_has ls 10 [(0, .ref o), (1, .int x1), (2, .int x2), (3, .int x3), (5, .int x5), (7, .int x7), (8, .int x8)] → fnD_one_240 u x1 x2 x3 x5 x7 x8 = some tg → W p l e R s m ([.ref o, .int a1, .int a2, .int a3] : List Value).toArray below meth c H locs 0 0 Q (F0 m 240 ls []) := by
    intro H locs ls u x1 x2 x3 x5 x7 x8 hP hD hS hl ht
    unfold fnD_one_240 at ht
    refine lv_iload_n hx hb dX2_one_240 rfl (lv_at hl 1 rfl) ?_
    refine lv_iconst (v := (5 : Int32)) hx hb dX2_one_241 (by decide) ?_
    refine lv_icmp_ne (tgt := 255) hx hb dX2_one_242 (by decide) (fun g29 => ?_) (fun g29 => ?_)
    · have ht := (if_neg g29).symm.trans ht
      exact K255 _ _ _ u x1 x2 x3 x5 x7 x8 hP hD hS (lv_sub hl [0, 1, 2, 3, 4, 5, 6] rfl) ht
    · have ht := (if_pos g29).symm.trans ht
      refine lv_iload hx hb dX2_one_245 (lv_at hl 4 rfl) ?_
      refine lv_if_eq (tgt := 255) hx hb dX2_one_247 (by decide) (fun g30 => ?_) (fun g30 => ?_)
      · have ht := (if_pos g30).symm.trans ht
        exact K255 _ _ _ u x1 x2 x3 x5 x7 x8 hP hD hS (lv_sub hl [0, 1, 2, 3, 4, 5, 6] rfl) ht
      · have ht := (if_neg g30).symm.trans ht
        refine lv_iload hx hb dX2_one_250 (lv_at hl 5 rfl) ?_
        refine lv_if_eq (tgt := 270) hx hb dX2_one_252 (by decide) (fun g31 => ?_) (fun g31 => ?_)
        · have ht := (if_pos g31).symm.trans ht
          exact K270 _ _ _ u x3 x7 x8 hP hD hS (lv_sub hl [0, 3, 5, 6] rfl) ht
        · have ht := (if_neg g31).symm.trans ht
          exact K255 _ _ _ u x1 x2 x3 x5 x7 x8 hP hD hS (lv_sub hl [0, 1, 2, 3, 4, 5, 6] rfl) ht
  have K230 : ∀ (H : Heap) (locs : List Loc) (ls : Array Slot) (u : sD) (x1 : Int32) (x2 : Int32) (x3 : Int32) (x5 : Int32) (x7 : Int32) (x8 : Int32) , va_P D vwCl (clD o aw ar kI u) H → va_D A (clD o aw ar kI u) → va_S A s.heap H locs → lv_has ls 10 [(0, .ref o), (1, .int x1), (2, .int x2), (3, .int x3), (5, .int x5), (7, .int x7), (8, .int x8)] → fnD_one_230 u x1 x2 x3 x5 x7 x8 = some tg → W p l e R s m ([.ref o, .int a1, .int a2, .int a3] : List Value).toArray below meth c H locs 0 0 Q (F0 m 230 ls []) := by
    intro H locs ls u x1 x2 x3 x5 x7 x8 hP hD hS hl ht
    unfold fnD_one_230 at ht
    refine lv_iload_n hx hb dX2_one_230 rfl (lv_at hl 1 rfl) ?_
    refine lv_iconst (v := (4 : Int32)) hx hb dX2_one_231 (by decide) ?_
    refine lv_icmp_ne (tgt := 240) hx hb dX2_one_232 (by decide) (fun g25 => ?_) (fun g25 => ?_)
    · have ht := (if_neg g25).symm.trans ht
      exact K240 _ _ _ u x1 x2 x3 x5 x7 x8 hP hD hS (lv_sub hl [0, 1, 2, 3, 4, 5, 6] rfl) ht
    · have ht := (if_pos g25).symm.trans ht
      refine lv_iload hx hb dX2_one_235 (lv_at hl 5 rfl) ?_
      refine lv_if_ne (tgt := 270) hx hb dX2_one_237 (by decide) (fun g26 => ?_) (fun g26 => ?_)
      · have ht := (if_neg g26).symm.trans ht
        exact K270 _ _ _ u x3 x7 x8 hP hD hS (lv_sub hl [0, 3, 5, 6] rfl) ht
      · have ht := (if_pos g26).symm.trans ht
        exact K240 _ _ _ u x1 x2 x3 x5 x7 x8 hP hD hS (lv_sub hl [0, 1, 2, 3, 4, 5, 6] rfl) ht
  have K225 : ∀ (H : Heap) (locs : List Loc) (ls : Array Slot) (u : sD) (x1 : Int32) (x2 : Int32) (x3 : Int32) (x5 : Int32) (x7 : Int32) (x8 : Int32) , va_P D vwCl (clD o aw ar kI u) H → va_D A (clD o aw ar kI u) → va_S A s.heap H locs → lv_has ls 10 [(0, .ref o), (1, .int x1), (2, .int x2), (3, .int x3), (5, .int x5), (7, .int x7), (8, .int x8)] → fnD_one_225 u x1 x2 x3 x5 x7 x8 = some tg → W p l e R s m ([.ref o, .int a1, .int a2, .int a3] : List Value).toArray below meth c H locs 0 0 Q (F0 m 225 ls []) := by
    intro H locs ls u x1 x2 x3 x5 x7 x8 hP hD hS hl ht
    unfold fnD_one_225 at ht
    refine lv_iload hx hb dX2_one_225 (lv_at hl 4 rfl) ?_
    refine lv_if_ne (tgt := 270) hx hb dX2_one_227 (by decide) (fun g24 => ?_) (fun g24 => ?_)
    · have ht := (if_neg g24).symm.trans ht
      exact K270 _ _ _ u x3 x7 x8 hP hD hS (lv_sub hl [0, 3, 5, 6] rfl) ht
    · have ht := (if_pos g24).symm.trans ht
      exact K230 _ _ _ u x1 x2 x3 x5 x7 x8 hP hD hS (lv_sub hl [0, 1, 2, 3, 4, 5, 6] rfl) ht
  have K208 : ∀ (H : Heap) (locs : List Loc) (ls : Array Slot) (u : sD) (x1 : Int32) (x2 : Int32) (x3 : Int32) (x5 : Int32) (x7 : Int32) (y0 : Int32) , va_P D vwCl (clD o aw ar kI u) H → va_D A (clD o aw ar kI u) → va_S A s.heap H locs → lv_has ls 10 [(0, .ref o), (1, .int x1), (2, .int x2), (3, .int x3), (5, .int x5), (7, .int x7)] → fnD_one_208 u x1 x2 x3 x5 x7 y0 = some tg → W p l e R s m ([.ref o, .int a1, .int a2, .int a3] : List Value).toArray below meth c H locs 0 0 Q (F0 m 208 ls [.int y0]) := by
    intro H locs ls u x1 x2 x3 x5 x7 y0 hP hD hS hl ht
    unfold fnD_one_208 at ht
    refine lv_istore (lv' := [(8, .int y0), (0, .ref o), (1, .int x1), (2, .int x2), (3, .int x3), (5, .int x5), (7, .int x7)]) hx hb dX2_one_208 hl (by decide) rfl (fun ls hl => ?_)
    refine lv_iload_n hx hb dX2_one_210 rfl (lv_at hl 2 rfl) ?_
    refine lv_iconst (v := (1 : Int32)) hx hb dX2_one_211 (by decide) ?_
    refine lv_icmp_eq (tgt := 270) hx hb dX2_one_212 (by decide) (fun g21 => ?_) (fun g21 => ?_)
    · have ht := (if_pos g21).symm.trans ht
      exact K270 _ _ _ u x3 x7 y0 hP hD hS (lv_sub hl [1, 4, 6, 0] rfl) ht
    · have ht := (if_neg g21).symm.trans ht
      refine lv_iload_n hx hb dX2_one_215 rfl (lv_at hl 2 rfl) ?_
      refine lv_iconst (v := (2 : Int32)) hx hb dX2_one_216 (by decide) ?_
      refine lv_icmp_eq (tgt := 225) hx hb dX2_one_217 (by decide) (fun g22 => ?_) (fun g22 => ?_)
      · have ht := (if_pos g22).symm.trans ht
        exact K225 _ _ _ u x1 x2 x3 x5 x7 y0 hP hD hS (lv_sub hl [1, 2, 3, 4, 5, 6, 0] rfl) ht
      · have ht := (if_neg g22).symm.trans ht
        refine lv_iload_n hx hb dX2_one_220 rfl (lv_at hl 2 rfl) ?_
        refine lv_iconst (v := (3 : Int32)) hx hb dX2_one_221 (by decide) ?_
        refine lv_icmp_ne (tgt := 230) hx hb dX2_one_222 (by decide) (fun g23 => ?_) (fun g23 => ?_)
        · have ht := (if_neg g23).symm.trans ht
          exact K230 _ _ _ u x1 x2 x3 x5 x7 y0 hP hD hS (lv_sub hl [1, 2, 3, 4, 5, 6, 0] rfl) ht
        · have ht := (if_pos g23).symm.trans ht
          exact K225 _ _ _ u x1 x2 x3 x5 x7 y0 hP hD hS (lv_sub hl [1, 2, 3, 4, 5, 6, 0] rfl) ht
  have K207 : ∀ (H : Heap) (locs : List Loc) (ls : Array Slot) (u : sD) (x1 : Int32) (x2 : Int32) (x3 : Int32) (x5 : Int32) (x7 : Int32) , va_P D vwCl (clD o aw ar kI u) H → va_D A (clD o aw ar kI u) → va_S A s.heap H locs → lv_has ls 10 [(0, .ref o), (1, .int x1), (2, .int x2), (3, .int x3), (5, .int x5), (7, .int x7)] → fnD_one_207 u x1 x2 x3 x5 x7 = some tg → W p l e R s m ([.ref o, .int a1, .int a2, .int a3] : List Value).toArray below meth c H locs 0 0 Q (F0 m 207 ls []) := by
    intro H locs ls u x1 x2 x3 x5 x7 hP hD hS hl ht
    unfold fnD_one_207 at ht
    refine lv_iconst (v := (0 : Int32)) hx hb dX2_one_207 (by decide) ?_
    exact K208 _ _ _ u x1 x2 x3 x5 x7 (0 : Int32) hP hD hS (lv_sub hl [0, 1, 2, 3, 4, 5] rfl) ht
  have K183 : ∀ (H : Heap) (locs : List Loc) (ls : Array Slot) (u : sD) (x1 : Int32) (x2 : Int32) (x3 : Int32) (x5 : Int32) (x7 : Int32) , va_P D vwCl (clD o aw ar kI u) H → va_D A (clD o aw ar kI u) → va_S A s.heap H locs → lv_has ls 10 [(0, .ref o), (1, .int x1), (2, .int x2), (3, .int x3), (5, .int x5), (7, .int x7)] → fnD_one_183 u x1 x2 x3 x5 x7 = some tg → W p l e R s m ([.ref o, .int a1, .int a2, .int a3] : List Value).toArray below meth c H locs 0 0 Q (F0 m 183 ls []) := by
    intro H locs ls u x1 x2 x3 x5 x7 hP hD hS hl ht
    unfold fnD_one_183 at ht
    refine lv_iconst (v := (0 : Int32)) hx hb dX2_one_183 (by decide) ?_
    refine lv_goto (tgt := 208) hx hb dX2_one_184 (by decide) ?_
    exact K208 _ _ _ u x1 x2 x3 x5 x7 (0 : Int32) hP hD hS (lv_sub hl [0, 1, 2, 3, 4, 5] rfl) ht
  have K131 : ∀ (H : Heap) (locs : List Loc) (ls : Array Slot) (u : sD) (x1 : Int32) (x2 : Int32) (x3 : Int32) (x5 : Int32) (x7 : Int32) , va_P D vwCl (clD o aw ar kI u) H → va_D A (clD o aw ar kI u) → va_S A s.heap H locs → lv_has ls 10 [(0, .ref o), (1, .int x1), (2, .int x2), (3, .int x3), (5, .int x5), (7, .int x7)] → fnD_one_131 u x1 x2 x3 x5 x7 = some tg → W p l e R s m ([.ref o, .int a1, .int a2, .int a3] : List Value).toArray below meth c H locs 0 0 Q (F0 m 131 ls []) := by
    intro H locs ls u x1 x2 x3 x5 x7 hP hD hS hl ht
    unfold fnD_one_131 at ht
    refine lv_iload hx hb dX2_one_131 (lv_at hl 5 rfl) ?_
    refine lv_iload_n hx hb dX2_one_133 rfl (lv_at hl 3 rfl) ?_
    refine lv_icmp_ne (tgt := 141) hx hb dX2_one_134 (by decide) (fun g20 => ?_) (fun g20 => ?_)
    · have ht := (if_neg g20).symm.trans ht
      refine lv_iconst (v := (0 : Int32)) hx hb dX2_one_141 (by decide) ?_
      refine lv_goto (tgt := 208) hx hb dX2_one_142 (by decide) ?_
      exact K208 _ _ _ u x1 x2 x3 x5 x7 (0 : Int32) hP hD hS (lv_sub hl [0, 1, 2, 3, 4, 5] rfl) ht
    · have ht := (if_pos g20).symm.trans ht
      refine lv_iconst (v := (1 : Int32)) hx hb dX2_one_137 (by decide) ?_
      refine lv_goto (tgt := 208) hx hb dX2_one_138 (by decide) ?_
      exact K208 _ _ _ u x1 x2 x3 x5 x7 (1 : Int32) hP hD hS (lv_sub hl [0, 1, 2, 3, 4, 5] rfl) ht
  have K112 : ∀ (H : Heap) (locs : List Loc) (ls : Array Slot) (u : sD) (x1 : Int32) (x2 : Int32) (x3 : Int32) (x4 : Int32) (x5 : Int32) (y0 : Int32) , va_P D vwCl (clD o aw ar kI u) H → va_D A (clD o aw ar kI u) → va_S A s.heap H locs → lv_has ls 10 [(0, .ref o), (1, .int x1), (2, .int x2), (3, .int x3), (4, .int x4), (5, .int x5)] → fnD_one_112 u x1 x2 x3 x4 x5 y0 = some tg → W p l e R s m ([.ref o, .int a1, .int a2, .int a3] : List Value).toArray below meth c H locs 0 0 Q (F0 m 112 ls [.int y0]) := by
    intro H locs ls u x1 x2 x3 x4 x5 y0 hP hD hS hl ht
    unfold fnD_one_112 at ht
    refine lv_istore (lv' := [(7, .int y0), (0, .ref o), (1, .int x1), (2, .int x2), (3, .int x3), (4, .int x4), (5, .int x5)]) hx hb dX2_one_112 hl (by decide) rfl (fun ls hl => ?_)
    refine lv_iload hx hb dX2_one_114 (lv_at hl 0 rfl) ?_
    refine lv_iload hx hb dX2_one_116 (lv_at hl 5 rfl) ?_
    refine lv_iand hx hb dX2_one_118 ?_
    refine lv_istore (lv' := [(7, .int (y0 &&& x4)), (0, .ref o), (1, .int x1), (2, .int x2), (3, .int x3), (4, .int x4), (5, .int x5)]) hx hb dX2_one_119 hl (by decide) rfl (fun ls hl => ?_)
    refine lv_iload_n hx hb dX2_one_121 rfl (lv_at hl 2 rfl) ?_
    refine lv_iconst (v := (2 : Int32)) hx hb dX2_one_122 (by decide) ?_
    refine lv_icmp_eq (tgt := 131) hx hb dX2_one_123 (by decide) (fun g10 => ?_) (fun g10 => ?_)
    · have ht := (if_pos g10).symm.trans ht
      exact K131 _ _ _ u x1 x2 x3 x5 (y0 &&& x4) hP hD hS (lv_sub hl [1, 2, 3, 4, 6, 0] rfl) ht
    · have ht := (if_neg g10).symm.trans ht
      refine lv_iload_n hx hb dX2_one_126 rfl (lv_at hl 2 rfl) ?_
      refine lv_iconst (v := (4 : Int32)) hx hb dX2_one_127 (by decide) ?_
      refine lv_icmp_ne (tgt := 145) hx hb dX2_one_128 (by decide) (fun g11 => ?_) (fun g11 => ?_)
      · have ht := (if_neg g11).symm.trans ht
        refine lv_iload_n hx hb dX2_one_145 rfl (lv_at hl 2 rfl) ?_
        refine lv_iconst (v := (3 : Int32)) hx hb dX2_one_146 (by decide) ?_
        refine lv_icmp_ne (tgt := 163) hx hb dX2_one_147 (by decide) (fun g12 => ?_) (fun g12 => ?_)
        · have ht := (if_neg g12).symm.trans ht
          refine lv_iload_n hx hb dX2_one_163 rfl (lv_at hl 2 rfl) ?_
          refine lv_iconst (v := (5 : Int32)) hx hb dX2_one_164 (by decide) ?_
          refine lv_icmp_ne (tgt := 187) hx hb dX2_one_165 (by decide) (fun g13 => ?_) (fun g13 => ?_)
          · have ht := (if_neg g13).symm.trans ht
            refine lv_iload_n hx hb dX2_one_187 rfl (lv_at hl 2 rfl) ?_
            refine lv_bipush (v := (6 : Int32)) hx hb dX2_one_188 (by decide) ?_
            refine lv_icmp_ne (tgt := 207) hx hb dX2_one_190 (by decide) (fun g14 => ?_) (fun g14 => ?_)
            · have ht := (if_neg g14).symm.trans ht
              exact K207 _ _ _ u x1 x2 x3 x5 (y0 &&& x4) hP hD hS (lv_sub hl [1, 2, 3, 4, 6, 0] rfl) ht
            · have ht := (if_pos g14).symm.trans ht
              refine lv_iload hx hb dX2_one_193 (lv_at hl 6 rfl) ?_
              refine lv_if_eq (tgt := 207) hx hb dX2_one_195 (by decide) (fun g15 => ?_) (fun g15 => ?_)
              · have ht := (if_pos g15).symm.trans ht
                exact K207 _ _ _ u x1 x2 x3 x5 (y0 &&& x4) hP hD hS (lv_sub hl [1, 2, 3, 4, 6, 0] rfl) ht
              · have ht := (if_neg g15).symm.trans ht
                refine lv_iload_n hx hb dX2_one_198 rfl (lv_at hl 3 rfl) ?_
                refine lv_iload_n hx hb dX2_one_199 rfl (lv_at hl 4 rfl) ?_
                refine lv_icmp_ne (tgt := 207) hx hb dX2_one_200 (by decide) (fun g16 => ?_) (fun g16 => ?_)
                · have ht := (if_neg g16).symm.trans ht
                  exact K207 _ _ _ u x1 x2 x3 x5 (y0 &&& x4) hP hD hS (lv_sub hl [1, 2, 3, 4, 6, 0] rfl) ht
                · have ht := (if_pos g16).symm.trans ht
                  refine lv_iconst (v := (1 : Int32)) hx hb dX2_one_203 (by decide) ?_
                  refine lv_goto (tgt := 208) hx hb dX2_one_204 (by decide) ?_
                  exact K208 _ _ _ u x1 x2 x3 x5 (y0 &&& x4) (1 : Int32) hP hD hS (lv_sub hl [1, 2, 3, 4, 6, 0] rfl) ht
          · have ht := (if_pos g13).symm.trans ht
            refine lv_iload hx hb dX2_one_168 (lv_at hl 6 rfl) ?_
            refine lv_if_eq (tgt := 183) hx hb dX2_one_170 (by decide) (fun g17 => ?_) (fun g17 => ?_)
            · have ht := (if_pos g17).symm.trans ht
              exact K183 _ _ _ u x1 x2 x3 x5 (y0 &&& x4) hP hD hS (lv_sub hl [1, 2, 3, 4, 6, 0] rfl) ht
            · have ht := (if_neg g17).symm.trans ht
              refine lv_iload hx hb dX2_one_173 (lv_at hl 0 rfl) ?_
              refine lv_iload_n hx hb dX2_one_175 rfl (lv_at hl 4 rfl) ?_
              refine lv_icmp_ne (tgt := 183) hx hb dX2_one_176 (by decide) (fun g18 => ?_) (fun g18 => ?_)
              · have ht := (if_neg g18).symm.trans ht
                exact K183 _ _ _ u x1 x2 x3 x5 (y0 &&& x4) hP hD hS (lv_sub hl [1, 2, 3, 4, 6, 0] rfl) ht
              · have ht := (if_pos g18).symm.trans ht
                refine lv_iconst (v := (1 : Int32)) hx hb dX2_one_179 (by decide) ?_
                refine lv_goto (tgt := 208) hx hb dX2_one_180 (by decide) ?_
                exact K208 _ _ _ u x1 x2 x3 x5 (y0 &&& x4) (1 : Int32) hP hD hS (lv_sub hl [1, 2, 3, 4, 6, 0] rfl) ht
        · have ht := (if_pos g12).symm.trans ht
          refine lv_iload_n hx hb dX2_one_150 rfl (lv_at hl 3 rfl) ?_
          refine lv_iload_n hx hb dX2_one_151 rfl (lv_at hl 4 rfl) ?_
          refine lv_icmp_ne (tgt := 159) hx hb dX2_one_152 (by decide) (fun g19 => ?_) (fun g19 => ?_)
          · have ht := (if_neg g19).symm.trans ht
            refine lv_iconst (v := (0 : Int32)) hx hb dX2_one_159 (by decide) ?_
            refine lv_goto (tgt := 208) hx hb dX2_one_160 (by decide) ?_
            exact K208 _ _ _ u x1 x2 x3 x5 (y0 &&& x4) (0 : Int32) hP hD hS (lv_sub hl [1, 2, 3, 4, 6, 0] rfl) ht
          · have ht := (if_pos g19).symm.trans ht
            refine lv_iconst (v := (1 : Int32)) hx hb dX2_one_155 (by decide) ?_
            refine lv_goto (tgt := 208) hx hb dX2_one_156 (by decide) ?_
            exact K208 _ _ _ u x1 x2 x3 x5 (y0 &&& x4) (1 : Int32) hP hD hS (lv_sub hl [1, 2, 3, 4, 6, 0] rfl) ht
      · have ht := (if_pos g11).symm.trans ht
        exact K131 _ _ _ u x1 x2 x3 x5 (y0 &&& x4) hP hD hS (lv_sub hl [1, 2, 3, 4, 6, 0] rfl) ht
  have K33 : ∀ (H : Heap) (locs : List Loc) (ls : Array Slot) (u : sD) (x1 : Int32) (x2 : Int32) (x3 : Int32) (x4 : Int32) (x5 : Int32) (y0 : Int32) , va_P D vwCl (clD o aw ar kI u) H → va_D A (clD o aw ar kI u) → va_S A s.heap H locs → lv_has ls 10 [(0, .ref o), (1, .int x1), (2, .int x2), (3, .int x3), (4, .int x4), (5, .int x5)] → fnD_one_33 u x1 x2 x3 x4 x5 y0 = some tg → W p l e R s m ([.ref o, .int a1, .int a2, .int a3] : List Value).toArray below meth c H locs 0 0 Q (F0 m 33 ls [.int y0]) := by
    intro H locs ls u x1 x2 x3 x4 x5 y0 hP hD hS hl ht
    unfold fnD_one_33 at ht
    refine lv_istore (lv' := [(6, .int y0), (0, .ref o), (1, .int x1), (2, .int x2), (3, .int x3), (4, .int x4), (5, .int x5)]) hx hb dX2_one_33 hl (by decide) rfl (fun ls hl => ?_)
    refine lv_iload_n hx hb dX2_one_35 rfl (lv_at hl 2 rfl) ?_
    refine lv_if_ne (tgt := 43) hx hb dX2_one_36 (by decide) (fun g3 => ?_) (fun g3 => ?_)
    · have ht := (if_neg g3).symm.trans ht
      refine lv_iload_n hx hb dX2_one_43 rfl (lv_at hl 2 rfl) ?_
      refine lv_iconst (v := (1 : Int32)) hx hb dX2_one_44 (by decide) ?_
      refine lv_icmp_ne (tgt := 54) hx hb dX2_one_45 (by decide) (fun g4 => ?_) (fun g4 => ?_)
      · have ht := (if_neg g4).symm.trans ht
        refine lv_iload_n hx hb dX2_one_54 rfl (lv_at hl 2 rfl) ?_
        refine lv_iconst (v := (2 : Int32)) hx hb dX2_one_55 (by decide) ?_
        refine lv_icmp_ne (tgt := 65) hx hb dX2_one_56 (by decide) (fun g5 => ?_) (fun g5 => ?_)
        · have ht := (if_neg g5).symm.trans ht
          refine lv_iload_n hx hb dX2_one_65 rfl (lv_at hl 2 rfl) ?_
          refine lv_iconst (v := (3 : Int32)) hx hb dX2_one_66 (by decide) ?_
          refine lv_icmp_ne (tgt := 76) hx hb dX2_one_67 (by decide) (fun g6 => ?_) (fun g6 => ?_)
          · have ht := (if_neg g6).symm.trans ht
            refine lv_iload_n hx hb dX2_one_76 rfl (lv_at hl 2 rfl) ?_
            refine lv_iconst (v := (4 : Int32)) hx hb dX2_one_77 (by decide) ?_
            refine lv_icmp_ne (tgt := 86) hx hb dX2_one_78 (by decide) (fun g7 => ?_) (fun g7 => ?_)
            · have ht := (if_neg g7).symm.trans ht
              refine lv_iload_n hx hb dX2_one_86 rfl (lv_at hl 2 rfl) ?_
              refine lv_iconst (v := (5 : Int32)) hx hb dX2_one_87 (by decide) ?_
              refine lv_icmp_ne (tgt := 98) hx hb dX2_one_88 (by decide) (fun g8 => ?_) (fun g8 => ?_)
              · have ht := (if_neg g8).symm.trans ht
                refine lv_iload_n hx hb dX2_one_98 rfl (lv_at hl 2 rfl) ?_
                refine lv_bipush (v := (6 : Int32)) hx hb dX2_one_99 (by decide) ?_
                refine lv_icmp_ne (tgt := 111) hx hb dX2_one_101 (by decide) (fun g9 => ?_) (fun g9 => ?_)
                · have ht := (if_neg g9).symm.trans ht
                  refine lv_iload_n hx hb dX2_one_111 rfl (lv_at hl 3 rfl) ?_
                  exact K112 _ _ _ u x1 x2 x3 x4 x5 x2 hP hD hS (lv_sub hl [1, 2, 3, 4, 5, 6] rfl) ht
                · have ht := (if_pos g9).symm.trans ht
                  refine lv_iload_n hx hb dX2_one_104 rfl (lv_at hl 3 rfl) ?_
                  refine lv_iload hx hb dX2_one_105 (lv_at hl 0 rfl) ?_
                  refine lv_isub hx hb dX2_one_107 ?_
                  refine lv_goto (tgt := 112) hx hb dX2_one_108 (by decide) ?_
                  exact K112 _ _ _ u x1 x2 x3 x4 x5 (x2 - y0) hP hD hS (lv_sub hl [1, 2, 3, 4, 5, 6] rfl) ht
              · have ht := (if_pos g8).symm.trans ht
                refine lv_iload_n hx hb dX2_one_91 rfl (lv_at hl 3 rfl) ?_
                refine lv_iload hx hb dX2_one_92 (lv_at hl 0 rfl) ?_
                refine lv_iadd hx hb dX2_one_94 ?_
                refine lv_goto (tgt := 112) hx hb dX2_one_95 (by decide) ?_
                exact K112 _ _ _ u x1 x2 x3 x4 x5 (x2 + y0) hP hD hS (lv_sub hl [1, 2, 3, 4, 5, 6] rfl) ht
            · have ht := (if_pos g7).symm.trans ht
              refine lv_iload_n hx hb dX2_one_81 rfl (lv_at hl 3 rfl) ?_
              refine lv_ineg hx hb dX2_one_82 ?_
              refine lv_goto (tgt := 112) hx hb dX2_one_83 (by decide) ?_
              exact K112 _ _ _ u x1 x2 x3 x4 x5 (-x2) hP hD hS (lv_sub hl [1, 2, 3, 4, 5, 6] rfl) ht
          · have ht := (if_pos g6).symm.trans ht
            refine lv_iload_n hx hb dX2_one_70 rfl (lv_at hl 3 rfl) ?_
            refine lv_iconst (v := (1 : Int32)) hx hb dX2_one_71 (by decide) ?_
            refine lv_isub hx hb dX2_one_72 ?_
            refine lv_goto (tgt := 112) hx hb dX2_one_73 (by decide) ?_
            exact K112 _ _ _ u x1 x2 x3 x4 x5 (x2 - (1 : Int32)) hP hD hS (lv_sub hl [1, 2, 3, 4, 5, 6] rfl) ht
        · have ht := (if_pos g5).symm.trans ht
          refine lv_iload_n hx hb dX2_one_59 rfl (lv_at hl 3 rfl) ?_
          refine lv_iconst (v := (1 : Int32)) hx hb dX2_one_60 (by decide) ?_
          refine lv_iadd hx hb dX2_one_61 ?_
          refine lv_goto (tgt := 112) hx hb dX2_one_62 (by decide) ?_
          exact K112 _ _ _ u x1 x2 x3 x4 x5 (x2 + (1 : Int32)) hP hD hS (lv_sub hl [1, 2, 3, 4, 5, 6] rfl) ht
      · have ht := (if_pos g4).symm.trans ht
        refine lv_iload_n hx hb dX2_one_48 rfl (lv_at hl 3 rfl) ?_
        refine lv_iconst (v := (-1 : Int32)) hx hb dX2_one_49 (by decide) ?_
        refine lv_ixor hx hb dX2_one_50 ?_
        refine lv_goto (tgt := 112) hx hb dX2_one_51 (by decide) ?_
        exact K112 _ _ _ u x1 x2 x3 x4 x5 (x2 ^^^ (-1 : Int32)) hP hD hS (lv_sub hl [1, 2, 3, 4, 5, 6] rfl) ht
    · have ht := (if_pos g3).symm.trans ht
      refine lv_iconst (v := (0 : Int32)) hx hb dX2_one_39 (by decide) ?_
      refine lv_goto (tgt := 112) hx hb dX2_one_40 (by decide) ?_
      exact K112 _ _ _ u x1 x2 x3 x4 x5 (0 : Int32) hP hD hS (lv_sub hl [1, 2, 3, 4, 5, 6] rfl) ht
  have K21 : ∀ (H : Heap) (locs : List Loc) (ls : Array Slot) (u : sD) (x1 : Int32) (x2 : Int32) (x3 : Int32) (x4 : Int32) (y0 : Int32) , va_P D vwCl (clD o aw ar kI u) H → va_D A (clD o aw ar kI u) → va_S A s.heap H locs → lv_has ls 10 [(0, .ref o), (1, .int x1), (2, .int x2), (3, .int x3), (4, .int x4)] → fnD_one_21 u x1 x2 x3 x4 y0 = some tg → W p l e R s m ([.ref o, .int a1, .int a2, .int a3] : List Value).toArray below meth c H locs 0 0 Q (F0 m 21 ls [.int y0]) := by
    intro H locs ls u x1 x2 x3 x4 y0 hP hD hS hl ht
    unfold fnD_one_21 at ht
    refine lv_istore (lv' := [(5, .int y0), (0, .ref o), (1, .int x1), (2, .int x2), (3, .int x3), (4, .int x4)]) hx hb dX2_one_21 hl (by decide) rfl (fun ls hl => ?_)
    refine lv_iload hx hb dX2_one_23 (lv_at hl 0 rfl) ?_
    refine lv_if_eq (tgt := 32) hx hb dX2_one_25 (by decide) (fun g2 => ?_) (fun g2 => ?_)
    · have ht := (if_pos g2).symm.trans ht
      refine lv_iconst (v := (0 : Int32)) hx hb dX2_one_32 (by decide) ?_
      exact K33 _ _ _ u x1 x2 x3 x4 y0 (0 : Int32) hP hD hS (lv_sub hl [1, 2, 3, 4, 5, 0] rfl) ht
    · have ht := (if_neg g2).symm.trans ht
      refine lv_iconst (v := (1 : Int32)) hx hb dX2_one_28 (by decide) ?_
      refine lv_goto (tgt := 33) hx hb dX2_one_29 (by decide) ?_
      exact K33 _ _ _ u x1 x2 x3 x4 y0 (1 : Int32) hP hD hS (lv_sub hl [1, 2, 3, 4, 5, 0] rfl) ht
  unfold fnD_one at ht
  obtain ⟨H, hHe⟩ : ∃ H : Heap, H = s.heap := ⟨_, rfl⟩
  have hP : va_P D vwCl (clD o aw ar kI u) H := by rw [hHe]; exact hP
  have hS : va_S A s.heap H [] := by rw [hHe]; exact va_S.rf
  rw [← hHe]
  refine lv_iconst (v := (2 : Int32)) hx hb dX2_one_0 (by decide) ?_
  refine lv_iload_n hx hb dX2_one_1 rfl (lv_at hl 3 rfl) ?_
  refine lv_imul hx hb dX2_one_2 ?_
  refine lv_iconst (v := (1 : Int32)) hx hb dX2_one_3 (by decide) ?_
  refine lv_isub hx hb dX2_one_4 ?_
  refine lv_istore (lv' := [(4, .int (((2 : Int32) * a3) - (1 : Int32))), (0, .ref o), (1, .int a1), (2, .int a2), (3, .int a3)]) hx hb dX2_one_5 hl (by decide) rfl (fun ls hl => ?_)
  refine lv_aload_n hx hb dX2_one_7 rfl (lv_at hl 1 rfl) ?_
  refine va_get (D := D) (ci := 2) (v := .int u.2.2.1) (C := RX2) (T := TX2) (N := 7) hx hb hts hin0 hown hK hP 0 rfl rfl 2 (by decide) (hw w_f_X2_17) (fun _ h9 => h9) rfl dX2_one_8 ?_
  refine lv_iconst (v := (1 : Int32)) hx hb dX2_one_11 (by decide) ?_
  refine lv_iand hx hb dX2_one_12 ?_
  refine lv_if_eq (tgt := 20) hx hb dX2_one_13 (by decide) (fun g1 => ?_) (fun g1 => ?_)
  · have ht := (if_pos g1).symm.trans ht
    refine lv_iconst (v := (0 : Int32)) hx hb dX2_one_20 (by decide) ?_
    exact K21 _ _ _ u a1 a2 a3 (((2 : Int32) * a3) - (1 : Int32)) (0 : Int32) hP hD hS (lv_sub hl [1, 2, 3, 4, 0] rfl) ht
  · have ht := (if_neg g1).symm.trans ht
    refine lv_iconst (v := (1 : Int32)) hx hb dX2_one_16 (by decide) ?_
    refine lv_goto (tgt := 21) hx hb dX2_one_17 (by decide) ?_
    exact K21 _ _ _ u a1 a2 a3 (((2 : Int32) * a3) - (1 : Int32)) (1 : Int32) hP hD hS (lv_sub hl [1, 2, 3, 4, 0] rfl) ht
def fnD_put_142 (u : sD) : Option (Unit × sD) := some ((), u)
def fnD_put_72 (u : sD) (y0 : Int32) (y1 : Int32) : Option (Unit × sD) := if ixk y1 8 then (fnD_put_142 (u.1, (upd u.2.1 y1.toNatClampNeg y0), u.2.2.1, u.2.2.2.1, u.2.2.2.2.1, u.2.2.2.2.2.1, u.2.2.2.2.2.2)) else none
def fnD_put (u : sD) (a1 : Int32) (a2 : Int32) (a3 : Int32) : Option (Unit × sD) := if 0 ≤ u.2.2.2.2.2.2 then (if a2 = 0 then (if ixk (u.2.2.2.2.2.2 / (2 : Int32)) 2048 then (fnD_put_142 ((upd u.1 (u.2.2.2.2.2.2 / (2 : Int32)).toNatClampNeg a1), u.2.1, u.2.2.1, u.2.2.2.1, u.2.2.2.2.1, (u.2.2.2.2.2.1 + (1 : Int32)), u.2.2.2.2.2.2)) else none) else (if ixk (u.2.2.2.2.2.2 / (2 : Int32)) 2048 then (if ixk (u.2.2.2.2.2.2 / (2 : Int32)) 2048 then (fnD_put_142 ((upd u.1 (u.2.2.2.2.2.2 / (2 : Int32)).toNatClampNeg (((u.1 (u.2.2.2.2.2.2 / (2 : Int32)).toNatClampNeg) &&& (((255 : Int32) <<< (((8 : Int32) * (u.2.2.2.2.2.2 - u.2.2.2.2.2.2 / (2 : Int32) * (2 : Int32))) &&& 31)) ^^^ (-1 : Int32))) ||| (a1 <<< (((8 : Int32) * (u.2.2.2.2.2.2 - u.2.2.2.2.2.2 / (2 : Int32) * (2 : Int32))) &&& 31)))), u.2.1, u.2.2.1, u.2.2.2.1, u.2.2.2.2.1, (u.2.2.2.2.2.1 + (1 : Int32)), u.2.2.2.2.2.2)) else none) else none)) else (if a2 = 0 then (fnD_put_72 (u.1, u.2.1, u.2.2.1, u.2.2.2.1, u.2.2.2.2.1, (u.2.2.2.2.2.1 + (1 : Int32)), u.2.2.2.2.2.2) a1 ((-1 : Int32) - u.2.2.2.2.2.2)) else (if a3 = 0 then (if ixk ((-1 : Int32) - u.2.2.2.2.2.2) 8 then (fnD_put_72 (u.1, u.2.1, u.2.2.1, u.2.2.2.1, u.2.2.2.2.1, (u.2.2.2.2.2.1 + (1 : Int32)), u.2.2.2.2.2.2) (((u.2.1 ((-1 : Int32) - u.2.2.2.2.2.2).toNatClampNeg) &&& (65280 : Int32)) ||| a1) ((-1 : Int32) - u.2.2.2.2.2.2)) else none) else (if a1 ≤ (127 : Int32) then (fnD_put_72 (u.1, u.2.1, u.2.2.1, u.2.2.2.1, u.2.2.2.2.1, (u.2.2.2.2.2.1 + (1 : Int32)), u.2.2.2.2.2.2) a1 ((-1 : Int32) - u.2.2.2.2.2.2)) else (fnD_put_72 (u.1, u.2.1, u.2.2.1, u.2.2.2.1, u.2.2.2.2.1, (u.2.2.2.2.2.1 + (1 : Int32)), u.2.2.2.2.2.2) (a1 ||| (65280 : Int32)) ((-1 : Int32) - u.2.2.2.2.2.2)))))
set_option maxRecDepth 100000 in
set_option maxHeartbeats 4000000 in
theorem ctD_put (l : Launch) (D : va_G) (kI : ClassId) (o aw ar : Nat) (sz : Nat) (u : sD) (a1 : Int32) (a2 : Int32) (a3 : Int32) (tg : Unit × sD) (ht : fnD_put u a1 a2 a3 = some tg) : Met l yX2_put (Cond.code yX2_put cX2_put 5 none :: wAll) ({ frames := 0, cells := 0, slots := 0, locals := 0 } : Room) (va_Pc [.ref o, .int a1, .int a2, .int a3] (prG D kI (clD o aw ar kI) sz u)) (va_Qv (fun (v : sD) => v = tg.2) (poG D kI (clD o aw ar kI) (va_A (clD o aw ar kI u) sz)) (va_A (clD o aw ar kI u) sz)) 0 0 (va_A (clD o aw ar kI u) sz) := by
  refine mOfW (cc := cX2_put) (maxL := 5) (ret := none) (by decide) rfl ?_
  intro p e s m args below meth c s₁ Q R hQ hR B hml hv
  obtain ⟨rfl, hsz, hP, hK, hD0⟩ := hv
  have hx := B.exec
  have hb := B.bytes
  have hr := B.returns
  have hts := atoms_spec (ws := Cond.code yX2_put cX2_put 5 none :: wAll) B.pre
  have hw : ∀ {w : Cond}, w ∈ wAll → w.before _ s = true := fun {w} h => hts w (List.mem_cons_of_mem _ h)
  have hown : s.vm.findClass RX2 = some m.cls := findClass_of_methodNamed B.named
  have hlocks := B.notSynchronized
  have hRf : 0 ≤ R.frames := by rw [hR]; exact Nat.le_refl _
  have hRl : 0 ≤ R.locals := by rw [hR]; exact Nat.le_refl _
  subst hsz
  have hD := hD0.self (sz := s.heap.size)
  generalize hAe : va_A (clD o aw ar kI u) s.heap.size = A at hD  hQ
  have hA : ∀ q : Nat, s.heap.size ≤ q → A q := fun q h => by rw [← hAe]; exact Or.inr h
  have hl := lv_entry ([.ref o, .int a1, .int a2, .int a3]) (n := 5) (Nat.le_of_ble_eq_true rfl)
  rw [lg_entry_eq]
  generalize (lg_sl ([.ref o, .int a1, .int a2, .int a3]) ++ List.replicate (5 - (lg_sl ([.ref o, .int a1, .int a2, .int a3])).length) Slot.unset).toArray = ls at hl ⊢
  have hl : lv_has ls 5 [(0, .ref o), (1, .int a1), (2, .int a2), (3, .int a3)] := hl
  have hin0 : ∀ w ∈ u_ws RX2 TX2 7, w ∈ (Cond.code yX2_put cX2_put 5 none :: wAll) := fun w h => List.mem_cons_of_mem _ (w_flX2 w h)
  have K142 : ∀ (H : Heap) (locs : List Loc) (ls : Array Slot) (u : sD) , va_P D vwCl (clD o aw ar kI u) H → va_D A (clD o aw ar kI u) → va_S A s.heap H locs → lv_has ls 5 [] → fnD_put_142 u  = some tg → W p l e R s m ([.ref o, .int a1, .int a2, .int a3] : List Value).toArray below meth c H locs 0 0 Q (F0 m 142 ls []) := by
    intro H locs ls u  hP hD hS hl ht
    unfold fnD_put_142 at ht
    have e9 := Option.some.inj ht
    subst hQ
    exact W.vret hx hb hr (fun t ht9 hW => ⟨⟨u, rfl, pr2 e9, ⟨by rw [ht9]; exact hP, va_K.moved hW.alike hK, hD⟩⟩, hS.F ht9⟩) hS.2.2 dX2_put_142
  have K72 : ∀ (H : Heap) (locs : List Loc) (ls : Array Slot) (u : sD) (y0 : Int32) (y1 : Int32) , va_P D vwCl (clD o aw ar kI u) H → va_D A (clD o aw ar kI u) → va_S A s.heap H locs → lv_has ls 5 [] → fnD_put_72 u y0 y1 = some tg → W p l e R s m ([.ref o, .int a1, .int a2, .int a3] : List Value).toArray below meth c H locs 0 0 Q (F0 m 72 ls [.int y0, .int y1, .ref ar]) := by
    intro H locs ls u y0 y1 hP hD hS hl ht
    unfold fnD_put_72 at ht
    obtain ⟨b10, ht⟩ := oi_some ht
    refine va_iast hx hb hK hP hD hS 2 0 rfl rfl (ixk_in b10) dX2_put_72 (fun H locs hP hD hS => ?_)
    have hP : va_P D vwCl (clD o aw ar kI (u.1, (upd u.2.1 y1.toNatClampNeg y0), u.2.2.1, u.2.2.2.1, u.2.2.2.2.1, u.2.2.2.2.2.1, u.2.2.2.2.2.2)) H := hP
    have hD : va_D A (clD o aw ar kI (u.1, (upd u.2.1 y1.toNatClampNeg y0), u.2.2.1, u.2.2.2.1, u.2.2.2.2.1, u.2.2.2.2.2.1, u.2.2.2.2.2.2)) := hD
    refine lv_goto (tgt := 142) hx hb dX2_put_73 (by decide) ?_
    exact K142 _ _ _ (u.1, (upd u.2.1 y1.toNatClampNeg y0), u.2.2.1, u.2.2.2.1, u.2.2.2.2.1, u.2.2.2.2.2.1, u.2.2.2.2.2.2) hP hD hS (lv_sub hl [] rfl) ht
  unfold fnD_put at ht
  obtain ⟨H, hHe⟩ : ∃ H : Heap, H = s.heap := ⟨_, rfl⟩
  have hP : va_P D vwCl (clD o aw ar kI u) H := by rw [hHe]; exact hP
  have hS : va_S A s.heap H [] := by rw [hHe]; exact va_S.rf
  rw [← hHe]
  refine lv_aload_n hx hb dX2_put_0 rfl (lv_at hl 0 rfl) ?_
  refine lv_dup hx hb dX2_put_1 rfl ?_
  refine va_get (D := D) (ci := 2) (v := .int u.2.2.2.2.2.1) (C := RX2) (T := TX2) (N := 7) hx hb hts hin0 hown hK hP 0 rfl rfl 5 (by decide) (hw w_f_X2_39) (fun _ h9 => h9) rfl dX2_put_2 ?_
  refine lv_iconst (v := (1 : Int32)) hx hb dX2_put_5 (by decide) ?_
  refine lv_iadd hx hb dX2_put_6 ?_
  refine va_put (D := D) (ci := 2) (v := .int (u.2.2.2.2.2.1 + (1 : Int32))) (ty := .int) (C := RX2) (T := TX2) (N := 7) hx hb hts hin0 tyX2 tyX2_ok nmX2 hown hK hP hD hS 0 rfl rfl 5 (by decide) (hw w_f_X2_39) (fun _ h9 => h9) rfl (by decide +kernel) rfl rfl (Nat.le_of_ble_eq_true rfl) dX2_put_7 (fun H locs hP hD hS => ?_)
  have hP : va_P D vwCl (clD o aw ar kI (u.1, u.2.1, u.2.2.1, u.2.2.2.1, u.2.2.2.2.1, (u.2.2.2.2.2.1 + (1 : Int32)), u.2.2.2.2.2.2)) H := hP
  have hD : va_D A (clD o aw ar kI (u.1, u.2.1, u.2.2.1, u.2.2.2.1, u.2.2.2.2.1, (u.2.2.2.2.2.1 + (1 : Int32)), u.2.2.2.2.2.2)) := hD
  refine lv_aload_n hx hb dX2_put_10 rfl (lv_at hl 0 rfl) ?_
  refine va_get (D := D) (ci := 2) (v := .int u.2.2.2.2.2.2) (C := RX2) (T := TX2) (N := 7) hx hb hts hin0 hown hK hP 0 rfl rfl 6 (by decide) (hw w_f_X2_36) (fun _ h9 => h9) rfl dX2_put_11 ?_
  refine lv_if_ge (tgt := 76) hx hb dX2_put_14 (by decide) (fun g1 => ?_) (fun g1 => ?_)
  · have ht := (if_pos g1).symm.trans ht
    refine lv_iload_n hx hb dX2_put_76 rfl (lv_at hl 2 rfl) ?_
    refine lv_if_eq (tgt := 130) hx hb dX2_put_77 (by decide) (fun g2 => ?_) (fun g2 => ?_)
    · have ht := (if_pos g2).symm.trans ht
      refine lv_aload_n hx hb dX2_put_130 rfl (lv_at hl 0 rfl) ?_
      refine va_get (D := D) (ci := 2) (v := .ref aw) (C := RX2) (T := TX2) (N := 7) hx hb hts hin0 hown hK hP 0 rfl rfl 0 (by decide) (hw w_f_X2_7) (fun _ h9 => h9) rfl dX2_put_131 ?_
      refine lv_aload_n hx hb dX2_put_134 rfl (lv_at hl 0 rfl) ?_
      refine va_get (D := D) (ci := 2) (v := .int u.2.2.2.2.2.2) (C := RX2) (T := TX2) (N := 7) hx hb hts hin0 hown hK hP 0 rfl rfl 6 (by decide) (hw w_f_X2_36) (fun _ h9 => h9) rfl dX2_put_135 ?_
      refine lv_iconst (v := (2 : Int32)) hx hb dX2_put_138 (by decide) ?_
      refine lv_idiv hx hb dX2_put_139 (by decide) ?_
      refine lv_iload_n hx hb dX2_put_140 rfl (lv_at hl 1 rfl) ?_
      obtain ⟨b3, ht⟩ := oi_some ht
      refine va_iast hx hb hK hP hD hS 1 0 rfl rfl (ixk_in b3) dX2_put_141 (fun H locs hP hD hS => ?_)
      have hP : va_P D vwCl (clD o aw ar kI ((upd u.1 (u.2.2.2.2.2.2 / (2 : Int32)).toNatClampNeg a1), u.2.1, u.2.2.1, u.2.2.2.1, u.2.2.2.2.1, (u.2.2.2.2.2.1 + (1 : Int32)), u.2.2.2.2.2.2)) H := hP
      have hD : va_D A (clD o aw ar kI ((upd u.1 (u.2.2.2.2.2.2 / (2 : Int32)).toNatClampNeg a1), u.2.1, u.2.2.1, u.2.2.2.1, u.2.2.2.2.1, (u.2.2.2.2.2.1 + (1 : Int32)), u.2.2.2.2.2.2)) := hD
      exact K142 _ _ _ ((upd u.1 (u.2.2.2.2.2.2 / (2 : Int32)).toNatClampNeg a1), u.2.1, u.2.2.1, u.2.2.2.1, u.2.2.2.2.1, (u.2.2.2.2.2.1 + (1 : Int32)), u.2.2.2.2.2.2) hP hD hS (lv_sub hl [] rfl) ht
    · have ht := (if_neg g2).symm.trans ht
      refine lv_bipush (v := (8 : Int32)) hx hb dX2_put_80 (by decide) ?_
      refine lv_aload_n hx hb dX2_put_82 rfl (lv_at hl 0 rfl) ?_
      refine va_get (D := D) (ci := 2) (v := .int u.2.2.2.2.2.2) (C := RX2) (T := TX2) (N := 7) hx hb hts hin0 hown hK hP 0 rfl rfl 6 (by decide) (hw w_f_X2_36) (fun _ h9 => h9) rfl dX2_put_83 ?_
      refine lv_iconst (v := (2 : Int32)) hx hb dX2_put_86 (by decide) ?_
      refine lv_irem hx hb dX2_put_87 (by decide) ?_
      refine lv_imul hx hb dX2_put_88 ?_
      refine lv_istore (lv' := [(4, .int ((8 : Int32) * (u.2.2.2.2.2.2 - u.2.2.2.2.2.2 / (2 : Int32) * (2 : Int32)))), (0, .ref o), (1, .int a1), (2, .int a2), (3, .int a3)]) hx hb dX2_put_89 hl (by decide) rfl (fun ls hl => ?_)
      refine lv_aload_n hx hb dX2_put_91 rfl (lv_at hl 1 rfl) ?_
      refine va_get (D := D) (ci := 2) (v := .ref aw) (C := RX2) (T := TX2) (N := 7) hx hb hts hin0 hown hK hP 0 rfl rfl 0 (by decide) (hw w_f_X2_7) (fun _ h9 => h9) rfl dX2_put_92 ?_
      refine lv_aload_n hx hb dX2_put_95 rfl (lv_at hl 1 rfl) ?_
      refine va_get (D := D) (ci := 2) (v := .int u.2.2.2.2.2.2) (C := RX2) (T := TX2) (N := 7) hx hb hts hin0 hown hK hP 0 rfl rfl 6 (by decide) (hw w_f_X2_36) (fun _ h9 => h9) rfl dX2_put_96 ?_
      refine lv_iconst (v := (2 : Int32)) hx hb dX2_put_99 (by decide) ?_
      refine lv_idiv hx hb dX2_put_100 (by decide) ?_
      refine lv_aload_n hx hb dX2_put_101 rfl (lv_at hl 1 rfl) ?_
      refine va_get (D := D) (ci := 2) (v := .ref aw) (C := RX2) (T := TX2) (N := 7) hx hb hts hin0 hown hK hP 0 rfl rfl 0 (by decide) (hw w_f_X2_7) (fun _ h9 => h9) rfl dX2_put_102 ?_
      refine lv_aload_n hx hb dX2_put_105 rfl (lv_at hl 1 rfl) ?_
      refine va_get (D := D) (ci := 2) (v := .int u.2.2.2.2.2.2) (C := RX2) (T := TX2) (N := 7) hx hb hts hin0 hown hK hP 0 rfl rfl 6 (by decide) (hw w_f_X2_36) (fun _ h9 => h9) rfl dX2_put_106 ?_
      refine lv_iconst (v := (2 : Int32)) hx hb dX2_put_109 (by decide) ?_
      refine lv_idiv hx hb dX2_put_110 (by decide) ?_
      obtain ⟨b4, ht⟩ := oi_some ht
      refine va_iald hx hb hK hP 1 0 rfl rfl (ixk_in b4) dX2_put_111 ?_
      refine lv_sipush (v := (255 : Int32)) hx hb dX2_put_112 (by decide) ?_
      refine lv_iload hx hb dX2_put_115 (lv_at hl 0 rfl) ?_
      refine lv_ishl hx hb dX2_put_117 ?_
      refine lv_iconst (v := (-1 : Int32)) hx hb dX2_put_118 (by decide) ?_
      refine lv_ixor hx hb dX2_put_119 ?_
      refine lv_iand hx hb dX2_put_120 ?_
      refine lv_iload_n hx hb dX2_put_121 rfl (lv_at hl 2 rfl) ?_
      refine lv_iload hx hb dX2_put_122 (lv_at hl 0 rfl) ?_
      refine lv_ishl hx hb dX2_put_124 ?_
      refine lv_ior hx hb dX2_put_125 ?_
      obtain ⟨b5, ht⟩ := oi_some ht
      refine va_iast hx hb hK hP hD hS 1 0 rfl rfl (ixk_in b5) dX2_put_126 (fun H locs hP hD hS => ?_)
      have hP : va_P D vwCl (clD o aw ar kI ((upd u.1 (u.2.2.2.2.2.2 / (2 : Int32)).toNatClampNeg (((u.1 (u.2.2.2.2.2.2 / (2 : Int32)).toNatClampNeg) &&& (((255 : Int32) <<< (((8 : Int32) * (u.2.2.2.2.2.2 - u.2.2.2.2.2.2 / (2 : Int32) * (2 : Int32))) &&& 31)) ^^^ (-1 : Int32))) ||| (a1 <<< (((8 : Int32) * (u.2.2.2.2.2.2 - u.2.2.2.2.2.2 / (2 : Int32) * (2 : Int32))) &&& 31)))), u.2.1, u.2.2.1, u.2.2.2.1, u.2.2.2.2.1, (u.2.2.2.2.2.1 + (1 : Int32)), u.2.2.2.2.2.2)) H := hP
      have hD : va_D A (clD o aw ar kI ((upd u.1 (u.2.2.2.2.2.2 / (2 : Int32)).toNatClampNeg (((u.1 (u.2.2.2.2.2.2 / (2 : Int32)).toNatClampNeg) &&& (((255 : Int32) <<< (((8 : Int32) * (u.2.2.2.2.2.2 - u.2.2.2.2.2.2 / (2 : Int32) * (2 : Int32))) &&& 31)) ^^^ (-1 : Int32))) ||| (a1 <<< (((8 : Int32) * (u.2.2.2.2.2.2 - u.2.2.2.2.2.2 / (2 : Int32) * (2 : Int32))) &&& 31)))), u.2.1, u.2.2.1, u.2.2.2.1, u.2.2.2.2.1, (u.2.2.2.2.2.1 + (1 : Int32)), u.2.2.2.2.2.2)) := hD
      refine lv_goto (tgt := 142) hx hb dX2_put_127 (by decide) ?_
      exact K142 _ _ _ ((upd u.1 (u.2.2.2.2.2.2 / (2 : Int32)).toNatClampNeg (((u.1 (u.2.2.2.2.2.2 / (2 : Int32)).toNatClampNeg) &&& (((255 : Int32) <<< (((8 : Int32) * (u.2.2.2.2.2.2 - u.2.2.2.2.2.2 / (2 : Int32) * (2 : Int32))) &&& 31)) ^^^ (-1 : Int32))) ||| (a1 <<< (((8 : Int32) * (u.2.2.2.2.2.2 - u.2.2.2.2.2.2 / (2 : Int32) * (2 : Int32))) &&& 31)))), u.2.1, u.2.2.1, u.2.2.2.1, u.2.2.2.2.1, (u.2.2.2.2.2.1 + (1 : Int32)), u.2.2.2.2.2.2) hP hD hS (lv_sub hl [] rfl) ht
  · have ht := (if_neg g1).symm.trans ht
    refine lv_iconst (v := (-1 : Int32)) hx hb dX2_put_17 (by decide) ?_
    refine lv_aload_n hx hb dX2_put_18 rfl (lv_at hl 0 rfl) ?_
    refine va_get (D := D) (ci := 2) (v := .int u.2.2.2.2.2.2) (C := RX2) (T := TX2) (N := 7) hx hb hts hin0 hown hK hP 0 rfl rfl 6 (by decide) (hw w_f_X2_36) (fun _ h9 => h9) rfl dX2_put_19 ?_
    refine lv_isub hx hb dX2_put_22 ?_
    refine lv_istore (lv' := [(4, .int ((-1 : Int32) - u.2.2.2.2.2.2)), (0, .ref o), (1, .int a1), (2, .int a2), (3, .int a3)]) hx hb dX2_put_23 hl (by decide) rfl (fun ls hl => ?_)
    refine lv_aload_n hx hb dX2_put_25 rfl (lv_at hl 1 rfl) ?_
    refine va_get (D := D) (ci := 2) (v := .ref ar) (C := RX2) (T := TX2) (N := 7) hx hb hts hin0 hown hK hP 0 rfl rfl 1 (by decide) (hw w_f_X2_13) (fun _ h9 => h9) rfl dX2_put_26 ?_
    refine lv_iload hx hb dX2_put_29 (lv_at hl 0 rfl) ?_
    refine lv_iload_n hx hb dX2_put_31 rfl (lv_at hl 3 rfl) ?_
    refine lv_if_ne (tgt := 39) hx hb dX2_put_32 (by decide) (fun g6 => ?_) (fun g6 => ?_)
    · have ht := (if_neg g6).symm.trans ht
      refine lv_iload_n hx hb dX2_put_39 rfl (lv_at hl 4 rfl) ?_
      refine lv_if_eq (tgt := 60) hx hb dX2_put_40 (by decide) (fun g7 => ?_) (fun g7 => ?_)
      · have ht := (if_pos g7).symm.trans ht
        refine lv_aload_n hx hb dX2_put_60 rfl (lv_at hl 1 rfl) ?_
        refine va_get (D := D) (ci := 2) (v := .ref ar) (C := RX2) (T := TX2) (N := 7) hx hb hts hin0 hown hK hP 0 rfl rfl 1 (by decide) (hw w_f_X2_13) (fun _ h9 => h9) rfl dX2_put_61 ?_
        refine lv_iload hx hb dX2_put_64 (lv_at hl 0 rfl) ?_
        obtain ⟨b8, ht⟩ := oi_some ht
        refine va_iald hx hb hK hP 2 0 rfl rfl (ixk_in b8) dX2_put_66 ?_
        refine lv_ldc (v := (65280 : Int32)) hx hb hown (hw w_k_X2_49) dX2_put_67 ?_
        refine lv_iand hx hb dX2_put_69 ?_
        refine lv_iload_n hx hb dX2_put_70 rfl (lv_at hl 2 rfl) ?_
        refine lv_ior hx hb dX2_put_71 ?_
        exact K72 _ _ _ (u.1, u.2.1, u.2.2.1, u.2.2.2.1, u.2.2.2.2.1, (u.2.2.2.2.2.1 + (1 : Int32)), u.2.2.2.2.2.2) (((u.2.1 ((-1 : Int32) - u.2.2.2.2.2.2).toNatClampNeg) &&& (65280 : Int32)) ||| a1) ((-1 : Int32) - u.2.2.2.2.2.2) hP hD hS (lv_sub hl [] rfl) ht
      · have ht := (if_neg g7).symm.trans ht
        refine lv_iload_n hx hb dX2_put_43 rfl (lv_at hl 2 rfl) ?_
        refine lv_bipush (v := (127 : Int32)) hx hb dX2_put_44 (by decide) ?_
        refine lv_icmp_le (tgt := 56) hx hb dX2_put_46 (by decide) (fun g9 => ?_) (fun g9 => ?_)
        · have ht := (if_pos g9).symm.trans ht
          refine lv_iload_n hx hb dX2_put_56 rfl (lv_at hl 2 rfl) ?_
          refine lv_goto (tgt := 72) hx hb dX2_put_57 (by decide) ?_
          exact K72 _ _ _ (u.1, u.2.1, u.2.2.1, u.2.2.2.1, u.2.2.2.2.1, (u.2.2.2.2.2.1 + (1 : Int32)), u.2.2.2.2.2.2) a1 ((-1 : Int32) - u.2.2.2.2.2.2) hP hD hS (lv_sub hl [] rfl) ht
        · have ht := (if_neg g9).symm.trans ht
          refine lv_iload_n hx hb dX2_put_49 rfl (lv_at hl 2 rfl) ?_
          refine lv_ldc (v := (65280 : Int32)) hx hb hown (hw w_k_X2_49) dX2_put_50 ?_
          refine lv_ior hx hb dX2_put_52 ?_
          refine lv_goto (tgt := 72) hx hb dX2_put_53 (by decide) ?_
          exact K72 _ _ _ (u.1, u.2.1, u.2.2.1, u.2.2.2.1, u.2.2.2.2.1, (u.2.2.2.2.2.1 + (1 : Int32)), u.2.2.2.2.2.2) (a1 ||| (65280 : Int32)) ((-1 : Int32) - u.2.2.2.2.2.2) hP hD hS (lv_sub hl [] rfl) ht
    · have ht := (if_pos g6).symm.trans ht
      refine lv_iload_n hx hb dX2_put_35 rfl (lv_at hl 2 rfl) ?_
      refine lv_goto (tgt := 72) hx hb dX2_put_36 (by decide) ?_
      exact K72 _ _ _ (u.1, u.2.1, u.2.2.1, u.2.2.2.1, u.2.2.2.2.1, (u.2.2.2.2.2.1 + (1 : Int32)), u.2.2.2.2.2.2) a1 ((-1 : Int32) - u.2.2.2.2.2.2) hP hD hS (lv_sub hl [] rfl) ht
def fnD_octet_55 (u : sD) (y0 : Int32) : Option (Int32 × sD) := some (y0, u)
def fnD_octet_22 (u : sD) (x1 : Int32) (y0 : Int32) : Option (Int32 × sD) := if y0 ≤ 0 then (if ixk (x1 / (2 : Int32)) 2048 then (fnD_octet_55 (u.1, u.2.1, u.2.2.1, y0, u.2.2.2.2.1, u.2.2.2.2.2.1, u.2.2.2.2.2.2) (((u.1 (x1 / (2 : Int32)).toNatClampNeg) >>> (((8 : Int32) * (x1 - x1 / (2 : Int32) * (2 : Int32))) &&& 31)) &&& (255 : Int32))) else none) else (fnD_octet_55 (u.1, u.2.1, u.2.2.1, y0, u.2.2.2.2.1, u.2.2.2.2.2.1, u.2.2.2.2.2.2) (0 : Int32))
def fnD_octet (u : sD) (a1 : Int32) : Option (Int32 × sD) := if u.2.2.2.1 ≤ 0 then (if a1 < (4096 : Int32) then (fnD_octet_22 u a1 (0 : Int32)) else (fnD_octet_22 u a1 (4 : Int32))) else (some ((0 : Int32), u))
set_option maxRecDepth 100000 in
set_option maxHeartbeats 4000000 in
theorem ctD_octet (l : Launch) (D : va_G) (kI : ClassId) (o aw ar : Nat) (sz : Nat) (u : sD) (a1 : Int32) (tg : Int32 × sD) (ht : fnD_octet u a1 = some tg) : Met l yX2_octet (Cond.code yX2_octet cX2_octet 2 (some .int) :: wAll) ({ frames := 0, cells := 0, slots := 0, locals := 0 } : Room) (va_Pc [.ref o, .int a1] (prG D kI (clD o aw ar kI) sz u)) (va_Qi (fun (x : Int32) (v : sD) => x = tg.1 ∧ v = tg.2) (poG D kI (clD o aw ar kI) (va_A (clD o aw ar kI u) sz)) (va_A (clD o aw ar kI u) sz)) 0 0 (va_A (clD o aw ar kI u) sz) := by
  refine mOfW (cc := cX2_octet) (maxL := 2) (ret := (some .int)) (by decide) rfl ?_
  intro p e s m args below meth c s₁ Q R hQ hR B hml hv
  obtain ⟨rfl, hsz, hP, hK, hD0⟩ := hv
  have hx := B.exec
  have hb := B.bytes
  have hr := B.returns
  have hts := atoms_spec (ws := Cond.code yX2_octet cX2_octet 2 (some .int) :: wAll) B.pre
  have hw : ∀ {w : Cond}, w ∈ wAll → w.before _ s = true := fun {w} h => hts w (List.mem_cons_of_mem _ h)
  have hown : s.vm.findClass RX2 = some m.cls := findClass_of_methodNamed B.named
  have hlocks := B.notSynchronized
  have hRf : 0 ≤ R.frames := by rw [hR]; exact Nat.le_refl _
  have hRl : 0 ≤ R.locals := by rw [hR]; exact Nat.le_refl _
  subst hsz
  have hD := hD0.self (sz := s.heap.size)
  generalize hAe : va_A (clD o aw ar kI u) s.heap.size = A at hD  hQ
  have hA : ∀ q : Nat, s.heap.size ≤ q → A q := fun q h => by rw [← hAe]; exact Or.inr h
  have hl := lv_entry ([.ref o, .int a1]) (n := 2) (Nat.le_of_ble_eq_true rfl)
  rw [lg_entry_eq]
  generalize (lg_sl ([.ref o, .int a1]) ++ List.replicate (2 - (lg_sl ([.ref o, .int a1])).length) Slot.unset).toArray = ls at hl ⊢
  have hl : lv_has ls 2 [(0, .ref o), (1, .int a1)] := hl
  have hin0 : ∀ w ∈ u_ws RX2 TX2 7, w ∈ (Cond.code yX2_octet cX2_octet 2 (some .int) :: wAll) := fun w h => List.mem_cons_of_mem _ (w_flX2 w h)
  have K55 : ∀ (H : Heap) (locs : List Loc) (ls : Array Slot) (u : sD) (y0 : Int32) , va_P D vwCl (clD o aw ar kI u) H → va_D A (clD o aw ar kI u) → va_S A s.heap H locs → lv_has ls 2 [] → fnD_octet_55 u y0 = some tg → W p l e R s m ([.ref o, .int a1] : List Value).toArray below meth c H locs 0 0 Q (F0 m 55 ls [.int y0]) := by
    intro H locs ls u y0 hP hD hS hl ht
    unfold fnD_octet_55 at ht
    have e9 := Option.some.inj ht
    subst hQ
    exact W.iret (v := y0) hx hb hr (fun t ht9 hW => ⟨⟨y0, u, rfl, ⟨pr1 e9, pr2 e9⟩, ⟨by rw [ht9]; exact hP, va_K.moved hW.alike hK, hD⟩⟩, hS.F ht9⟩) hS.2.2 dX2_octet_55
  have K22 : ∀ (H : Heap) (locs : List Loc) (ls : Array Slot) (u : sD) (x1 : Int32) (y0 : Int32) , va_P D vwCl (clD o aw ar kI u) H → va_D A (clD o aw ar kI u) → va_S A s.heap H locs → lv_has ls 2 [(0, .ref o), (1, .int x1)] → fnD_octet_22 u x1 y0 = some tg → W p l e R s m ([.ref o, .int a1] : List Value).toArray below meth c H locs 0 0 Q (F0 m 22 ls [.int y0, .ref o]) := by
    intro H locs ls u x1 y0 hP hD hS hl ht
    unfold fnD_octet_22 at ht
    refine va_put (D := D) (ci := 2) (v := .int y0) (ty := .int) (C := RX2) (T := TX2) (N := 7) hx hb hts hin0 tyX2 tyX2_ok nmX2 hown hK hP hD hS 0 rfl rfl 3 (by decide) (hw w_f_X2_25) (fun _ h9 => h9) rfl (by decide +kernel) rfl rfl (Nat.le_of_ble_eq_true rfl) dX2_octet_22 (fun H locs hP hD hS => ?_)
    have hP : va_P D vwCl (clD o aw ar kI (u.1, u.2.1, u.2.2.1, y0, u.2.2.2.2.1, u.2.2.2.2.2.1, u.2.2.2.2.2.2)) H := hP
    have hD : va_D A (clD o aw ar kI (u.1, u.2.1, u.2.2.1, y0, u.2.2.2.2.1, u.2.2.2.2.2.1, u.2.2.2.2.2.2)) := hD
    refine lv_aload_n hx hb dX2_octet_25 rfl (lv_at hl 0 rfl) ?_
    refine va_get (D := D) (ci := 2) (v := .int y0) (C := RX2) (T := TX2) (N := 7) hx hb hts hin0 hown hK hP 0 rfl rfl 3 (by decide) (hw w_f_X2_25) (fun _ h9 => h9) rfl dX2_octet_26 ?_
    refine lv_if_le (tgt := 36) hx hb dX2_octet_29 (by decide) (fun g3 => ?_) (fun g3 => ?_)
    · have ht := (if_pos g3).symm.trans ht
      refine lv_aload_n hx hb dX2_octet_36 rfl (lv_at hl 0 rfl) ?_
      refine va_get (D := D) (ci := 2) (v := .ref aw) (C := RX2) (T := TX2) (N := 7) hx hb hts hin0 hown hK hP 0 rfl rfl 0 (by decide) (hw w_f_X2_7) (fun _ h9 => h9) rfl dX2_octet_37 ?_
      refine lv_iload_n hx hb dX2_octet_40 rfl (lv_at hl 1 rfl) ?_
      refine lv_iconst (v := (2 : Int32)) hx hb dX2_octet_41 (by decide) ?_
      refine lv_idiv hx hb dX2_octet_42 (by decide) ?_
      obtain ⟨b4, ht⟩ := oi_some ht
      refine va_iald hx hb hK hP 1 0 rfl rfl (ixk_in b4) dX2_octet_43 ?_
      refine lv_bipush (v := (8 : Int32)) hx hb dX2_octet_44 (by decide) ?_
      refine lv_iload_n hx hb dX2_octet_46 rfl (lv_at hl 1 rfl) ?_
      refine lv_iconst (v := (2 : Int32)) hx hb dX2_octet_47 (by decide) ?_
      refine lv_irem hx hb dX2_octet_48 (by decide) ?_
      refine lv_imul hx hb dX2_octet_49 ?_
      refine lv_ishr hx hb dX2_octet_50 ?_
      refine lv_sipush (v := (255 : Int32)) hx hb dX2_octet_51 (by decide) ?_
      refine lv_iand hx hb dX2_octet_54 ?_
      exact K55 _ _ _ (u.1, u.2.1, u.2.2.1, y0, u.2.2.2.2.1, u.2.2.2.2.2.1, u.2.2.2.2.2.2) (((u.1 (x1 / (2 : Int32)).toNatClampNeg) >>> (((8 : Int32) * (x1 - x1 / (2 : Int32) * (2 : Int32))) &&& 31)) &&& (255 : Int32)) hP hD hS (lv_sub hl [] rfl) ht
    · have ht := (if_neg g3).symm.trans ht
      refine lv_iconst (v := (0 : Int32)) hx hb dX2_octet_32 (by decide) ?_
      refine lv_goto (tgt := 55) hx hb dX2_octet_33 (by decide) ?_
      exact K55 _ _ _ (u.1, u.2.1, u.2.2.1, y0, u.2.2.2.2.1, u.2.2.2.2.2.1, u.2.2.2.2.2.2) (0 : Int32) hP hD hS (lv_sub hl [] rfl) ht
  unfold fnD_octet at ht
  obtain ⟨H, hHe⟩ : ∃ H : Heap, H = s.heap := ⟨_, rfl⟩
  have hP : va_P D vwCl (clD o aw ar kI u) H := by rw [hHe]; exact hP
  have hS : va_S A s.heap H [] := by rw [hHe]; exact va_S.rf
  rw [← hHe]
  refine lv_aload_n hx hb dX2_octet_0 rfl (lv_at hl 0 rfl) ?_
  refine va_get (D := D) (ci := 2) (v := .int u.2.2.2.1) (C := RX2) (T := TX2) (N := 7) hx hb hts hin0 hown hK hP 0 rfl rfl 3 (by decide) (hw w_f_X2_25) (fun _ h9 => h9) rfl dX2_octet_1 ?_
  refine lv_if_le (tgt := 9) hx hb dX2_octet_4 (by decide) (fun g1 => ?_) (fun g1 => ?_)
  · have ht := (if_pos g1).symm.trans ht
    refine lv_aload_n hx hb dX2_octet_9 rfl (lv_at hl 0 rfl) ?_
    refine lv_iload_n hx hb dX2_octet_10 rfl (lv_at hl 1 rfl) ?_
    refine lv_sipush (v := (4096 : Int32)) hx hb dX2_octet_11 (by decide) ?_
    refine lv_icmp_lt (tgt := 21) hx hb dX2_octet_14 (by decide) (fun g2 => ?_) (fun g2 => ?_)
    · have ht := (if_pos g2).symm.trans ht
      refine lv_iconst (v := (0 : Int32)) hx hb dX2_octet_21 (by decide) ?_
      exact K22 _ _ _ u a1 (0 : Int32) hP hD hS (lv_sub hl [0, 1] rfl) ht
    · have ht := (if_neg g2).symm.trans ht
      refine lv_iconst (v := (4 : Int32)) hx hb dX2_octet_17 (by decide) ?_
      refine lv_goto (tgt := 22) hx hb dX2_octet_18 (by decide) ?_
      exact K22 _ _ _ u a1 (4 : Int32) hP hD hS (lv_sub hl [0, 1] rfl) ht
  · have ht := (if_neg g1).symm.trans ht
    refine lv_iconst (v := (0 : Int32)) hx hb dX2_octet_7 (by decide) ?_
    have e9 := Option.some.inj ht
    subst hQ
    exact W.iret (v := (0 : Int32)) hx hb hr (fun t ht9 hW => ⟨⟨(0 : Int32), u, rfl, ⟨pr1 e9, pr2 e9⟩, ⟨by rw [ht9]; exact hP, va_K.moved hW.alike hK, hD⟩⟩, hS.F ht9⟩) hS.2.2 dX2_octet_8
def fnD_read_74 (u : sD) (y0 : Int32) : Option (Int32 × sD) := some (y0, u)
def fnD_read_49 (u : sD) (y0 : Int32) (y1 : Int32) : Option (Int32 × sD) := some ((y1 &&& y0), u)
def fnD_read (u : sD) (a1 : Int32) : Option (Int32 × sD) := if u.2.2.2.1 ≤ 0 then (if 0 ≤ u.2.2.2.2.2.2 then (if a1 = 0 then ((fnD_word (u.1, u.2.1, u.2.2.1, u.2.2.2.1, u.2.2.2.2.1, (u.2.2.2.2.2.1 + (1 : Int32)), u.2.2.2.2.2.2) u.2.2.2.2.2.2).bind (fun r4 => fnD_read_74 r4.2 r4.1)) else ((fnD_octet (u.1, u.2.1, u.2.2.1, u.2.2.2.1, u.2.2.2.2.1, (u.2.2.2.2.2.1 + (1 : Int32)), u.2.2.2.2.2.2) u.2.2.2.2.2.2).bind (fun r6 => fnD_read_74 r6.2 r6.1))) else (if ixk ((-1 : Int32) - u.2.2.2.2.2.2) 8 then (if a1 = 0 then (fnD_read_49 (u.1, u.2.1, u.2.2.1, u.2.2.2.1, u.2.2.2.2.1, (u.2.2.2.2.2.1 + (1 : Int32)), u.2.2.2.2.2.2) (65535 : Int32) (u.2.1 ((-1 : Int32) - u.2.2.2.2.2.2).toNatClampNeg)) else (fnD_read_49 (u.1, u.2.1, u.2.2.1, u.2.2.2.1, u.2.2.2.2.1, (u.2.2.2.2.2.1 + (1 : Int32)), u.2.2.2.2.2.2) (255 : Int32) (u.2.1 ((-1 : Int32) - u.2.2.2.2.2.2).toNatClampNeg))) else none)) else (some ((0 : Int32), (u.1, u.2.1, u.2.2.1, u.2.2.2.1, u.2.2.2.2.1, (u.2.2.2.2.2.1 + (1 : Int32)), u.2.2.2.2.2.2)))
set_option maxRecDepth 100000 in
set_option maxHeartbeats 4000000 in
theorem ctD_read (l : Launch) (D : va_G) (kI : ClassId) (o aw ar : Nat) (sz : Nat) (u : sD) (a1 : Int32) (tg : Int32 × sD) (ht : fnD_read u a1 = some tg) : Met l yX2_read (Cond.code yX2_read cX2_read 2 (some .int) :: wAll) ({ frames := 1, cells := 0, slots := 0, locals := 21 } : Room) (va_Pc [.ref o, .int a1] (prG D kI (clD o aw ar kI) sz u)) (va_Qi (fun (x : Int32) (v : sD) => x = tg.1 ∧ v = tg.2) (poG D kI (clD o aw ar kI) (va_A (clD o aw ar kI u) sz)) (va_A (clD o aw ar kI u) sz)) 0 0 (va_A (clD o aw ar kI u) sz) := by
  refine mOfW (cc := cX2_read) (maxL := 2) (ret := (some .int)) (by decide) rfl ?_
  intro p e s m args below meth c s₁ Q R hQ hR B hml hv
  obtain ⟨rfl, hsz, hP, hK, hD0⟩ := hv
  have hx := B.exec
  have hb := B.bytes
  have hr := B.returns
  have hts := atoms_spec (ws := Cond.code yX2_read cX2_read 2 (some .int) :: wAll) B.pre
  have hw : ∀ {w : Cond}, w ∈ wAll → w.before _ s = true := fun {w} h => hts w (List.mem_cons_of_mem _ h)
  have hown : s.vm.findClass RX2 = some m.cls := findClass_of_methodNamed B.named
  have hlocks := B.notSynchronized
  have hRf : 1 ≤ R.frames := by rw [hR]; exact Nat.le_refl _
  have hRl : 21 ≤ R.locals := by rw [hR]; exact Nat.le_refl _
  subst hsz
  have hD := hD0.self (sz := s.heap.size)
  generalize hAe : va_A (clD o aw ar kI u) s.heap.size = A at hD  hQ
  have hA : ∀ q : Nat, s.heap.size ≤ q → A q := fun q h => by rw [← hAe]; exact Or.inr h
  have hl := lv_entry ([.ref o, .int a1]) (n := 2) (Nat.le_of_ble_eq_true rfl)
  rw [lg_entry_eq]
  generalize (lg_sl ([.ref o, .int a1]) ++ List.replicate (2 - (lg_sl ([.ref o, .int a1])).length) Slot.unset).toArray = ls at hl ⊢
  have hl : lv_has ls 2 [(0, .ref o), (1, .int a1)] := hl
  have hin0 : ∀ w ∈ u_ws RX2 TX2 7, w ∈ (Cond.code yX2_read cX2_read 2 (some .int) :: wAll) := fun w h => List.mem_cons_of_mem _ (w_flX2 w h)
  have K74 : ∀ (H : Heap) (locs : List Loc) (ls : Array Slot) (u : sD) (y0 : Int32) , va_P D vwCl (clD o aw ar kI u) H → va_D A (clD o aw ar kI u) → va_S A s.heap H locs → lv_has ls 2 [] → fnD_read_74 u y0 = some tg → W p l e R s m ([.ref o, .int a1] : List Value).toArray below meth c H locs 0 0 Q (F0 m 74 ls [.int y0]) := by
    intro H locs ls u y0 hP hD hS hl ht
    unfold fnD_read_74 at ht
    have e9 := Option.some.inj ht
    subst hQ
    exact W.iret (v := y0) hx hb hr (fun t ht9 hW => ⟨⟨y0, u, rfl, ⟨pr1 e9, pr2 e9⟩, ⟨by rw [ht9]; exact hP, va_K.moved hW.alike hK, hD⟩⟩, hS.F ht9⟩) hS.2.2 dX2_read_74
  have K49 : ∀ (H : Heap) (locs : List Loc) (ls : Array Slot) (u : sD) (y0 : Int32) (y1 : Int32) , va_P D vwCl (clD o aw ar kI u) H → va_D A (clD o aw ar kI u) → va_S A s.heap H locs → lv_has ls 2 [] → fnD_read_49 u y0 y1 = some tg → W p l e R s m ([.ref o, .int a1] : List Value).toArray below meth c H locs 0 0 Q (F0 m 49 ls [.int y0, .int y1]) := by
    intro H locs ls u y0 y1 hP hD hS hl ht
    unfold fnD_read_49 at ht
    refine lv_iand hx hb dX2_read_49 ?_
    have e9 := Option.some.inj ht
    subst hQ
    exact W.iret (v := (y1 &&& y0)) hx hb hr (fun t ht9 hW => ⟨⟨(y1 &&& y0), u, rfl, ⟨pr1 e9, pr2 e9⟩, ⟨by rw [ht9]; exact hP, va_K.moved hW.alike hK, hD⟩⟩, hS.F ht9⟩) hS.2.2 dX2_read_50
  unfold fnD_read at ht
  obtain ⟨H, hHe⟩ : ∃ H : Heap, H = s.heap := ⟨_, rfl⟩
  have hP : va_P D vwCl (clD o aw ar kI u) H := by rw [hHe]; exact hP
  have hS : va_S A s.heap H [] := by rw [hHe]; exact va_S.rf
  rw [← hHe]
  refine lv_aload_n hx hb dX2_read_0 rfl (lv_at hl 0 rfl) ?_
  refine lv_dup hx hb dX2_read_1 rfl ?_
  refine va_get (D := D) (ci := 2) (v := .int u.2.2.2.2.2.1) (C := RX2) (T := TX2) (N := 7) hx hb hts hin0 hown hK hP 0 rfl rfl 5 (by decide) (hw w_f_X2_39) (fun _ h9 => h9) rfl dX2_read_2 ?_
  refine lv_iconst (v := (1 : Int32)) hx hb dX2_read_5 (by decide) ?_
  refine lv_iadd hx hb dX2_read_6 ?_
  refine va_put (D := D) (ci := 2) (v := .int (u.2.2.2.2.2.1 + (1 : Int32))) (ty := .int) (C := RX2) (T := TX2) (N := 7) hx hb hts hin0 tyX2 tyX2_ok nmX2 hown hK hP hD hS 0 rfl rfl 5 (by decide) (hw w_f_X2_39) (fun _ h9 => h9) rfl (by decide +kernel) rfl rfl (Nat.le_of_ble_eq_true rfl) dX2_read_7 (fun H locs hP hD hS => ?_)
  have hP : va_P D vwCl (clD o aw ar kI (u.1, u.2.1, u.2.2.1, u.2.2.2.1, u.2.2.2.2.1, (u.2.2.2.2.2.1 + (1 : Int32)), u.2.2.2.2.2.2)) H := hP
  have hD : va_D A (clD o aw ar kI (u.1, u.2.1, u.2.2.1, u.2.2.2.1, u.2.2.2.2.1, (u.2.2.2.2.2.1 + (1 : Int32)), u.2.2.2.2.2.2)) := hD
  refine lv_aload_n hx hb dX2_read_10 rfl (lv_at hl 0 rfl) ?_
  refine va_get (D := D) (ci := 2) (v := .int u.2.2.2.1) (C := RX2) (T := TX2) (N := 7) hx hb hts hin0 hown hK hP 0 rfl rfl 3 (by decide) (hw w_f_X2_25) (fun _ h9 => h9) rfl dX2_read_11 ?_
  refine lv_if_le (tgt := 19) hx hb dX2_read_14 (by decide) (fun g1 => ?_) (fun g1 => ?_)
  · have ht := (if_pos g1).symm.trans ht
    refine lv_aload_n hx hb dX2_read_19 rfl (lv_at hl 0 rfl) ?_
    refine va_get (D := D) (ci := 2) (v := .int u.2.2.2.2.2.2) (C := RX2) (T := TX2) (N := 7) hx hb hts hin0 hown hK hP 0 rfl rfl 6 (by decide) (hw w_f_X2_36) (fun _ h9 => h9) rfl dX2_read_20 ?_
    refine lv_if_ge (tgt := 51) hx hb dX2_read_23 (by decide) (fun g2 => ?_) (fun g2 => ?_)
    · have ht := (if_pos g2).symm.trans ht
      refine lv_iload_n hx hb dX2_read_51 rfl (lv_at hl 1 rfl) ?_
      refine lv_if_eq (tgt := 66) hx hb dX2_read_52 (by decide) (fun g3 => ?_) (fun g3 => ?_)
      · have ht := (if_pos g3).symm.trans ht
        refine lv_aload_n hx hb dX2_read_66 rfl (lv_at hl 0 rfl) ?_
        refine lv_aload_n hx hb dX2_read_67 rfl (lv_at hl 0 rfl) ?_
        refine va_get (D := D) (ci := 2) (v := .int u.2.2.2.2.2.2) (C := RX2) (T := TX2) (N := 7) hx hb hts hin0 hown hK hP 0 rfl rfl 6 (by decide) (hw w_f_X2_36) (fun _ h9 => h9) rfl dX2_read_68 ?_
        obtain ⟨r4, h5, ht⟩ := ob_some ht
        refine kG_i (cl := clD o aw ar kI) (u := (u.1, u.2.1, u.2.2.1, u.2.2.2.1, u.2.2.2.2.1, (u.2.2.2.2.2.1 + (1 : Int32)), u.2.2.2.2.2.2)) (va_runV (As := [.int u.2.2.2.2.2.2]) (rest := []) ⟨hx, hb, hml, hown, hts⟩ (ctD_word l D kI o aw ar H.size (u.1, u.2.1, u.2.2.1, u.2.2.2.1, u.2.2.2.2.1, (u.2.2.2.2.2.1 + (1 : Int32)), u.2.2.2.2.2.2) u.2.2.2.2.2.2 r4 h5) (cwV 1 hts (gV w_m_X2_32 w_im_yX2_word w_sel_yX2_word w_init_MicroMillModel w_co_yX2_word) rfl rfl rfl (by decide +kernel) ⟨Nat.le_trans (Nat.le_of_ble_eq_true rfl) hRf, Nat.le_trans (Nat.le_of_ble_eq_true rfl) hRl⟩) (preG (cl := clD o aw ar kI) (u := (u.1, u.2.1, u.2.2.1, u.2.2.2.1, u.2.2.2.2.1, (u.2.2.2.2.2.1 + (1 : Int32)), u.2.2.2.2.2.2)) (N := 7) (ci := 2) hK hP (hD.weaken (fun _ _ _ _ => trivial)) rfl rfl _) rfl rfl hl.1 rfl (lv_room (Nat.le_of_ble_eq_true rfl)) dX2_read_71 ⟨Nat.zero_le _, Nat.zero_le _⟩) hD hS hA (fun H locs hP hD hS => ?_)
        exact K74 _ _ _ r4.2 r4.1 hP hD hS (lv_sub hl [] rfl) ht
      · have ht := (if_neg g3).symm.trans ht
        refine lv_aload_n hx hb dX2_read_55 rfl (lv_at hl 0 rfl) ?_
        refine lv_aload_n hx hb dX2_read_56 rfl (lv_at hl 0 rfl) ?_
        refine va_get (D := D) (ci := 2) (v := .int u.2.2.2.2.2.2) (C := RX2) (T := TX2) (N := 7) hx hb hts hin0 hown hK hP 0 rfl rfl 6 (by decide) (hw w_f_X2_36) (fun _ h9 => h9) rfl dX2_read_57 ?_
        obtain ⟨r6, h7, ht⟩ := ob_some ht
        refine kG_i (cl := clD o aw ar kI) (u := (u.1, u.2.1, u.2.2.1, u.2.2.2.1, u.2.2.2.2.1, (u.2.2.2.2.2.1 + (1 : Int32)), u.2.2.2.2.2.2)) (va_runV (As := [.int u.2.2.2.2.2.2]) (rest := []) ⟨hx, hb, hml, hown, hts⟩ (ctD_octet l D kI o aw ar H.size (u.1, u.2.1, u.2.2.1, u.2.2.2.1, u.2.2.2.2.1, (u.2.2.2.2.2.1 + (1 : Int32)), u.2.2.2.2.2.2) u.2.2.2.2.2.2 r6 h7) (cwV 1 hts (gV w_m_X2_46 w_im_yX2_octet w_sel_yX2_octet w_init_MicroMillModel w_co_yX2_octet) rfl rfl rfl (by decide +kernel) ⟨Nat.le_trans (Nat.le_of_ble_eq_true rfl) hRf, Nat.le_trans (Nat.le_of_ble_eq_true rfl) hRl⟩) (preG (cl := clD o aw ar kI) (u := (u.1, u.2.1, u.2.2.1, u.2.2.2.1, u.2.2.2.2.1, (u.2.2.2.2.2.1 + (1 : Int32)), u.2.2.2.2.2.2)) (N := 7) (ci := 2) hK hP (hD.weaken (fun _ _ _ _ => trivial)) rfl rfl _) rfl rfl hl.1 rfl (lv_room (Nat.le_of_ble_eq_true rfl)) dX2_read_60 ⟨Nat.zero_le _, Nat.zero_le _⟩) hD hS hA (fun H locs hP hD hS => ?_)
        refine lv_goto (tgt := 74) hx hb dX2_read_63 (by decide) ?_
        exact K74 _ _ _ r6.2 r6.1 hP hD hS (lv_sub hl [] rfl) ht
    · have ht := (if_neg g2).symm.trans ht
      refine lv_aload_n hx hb dX2_read_26 rfl (lv_at hl 0 rfl) ?_
      refine va_get (D := D) (ci := 2) (v := .ref ar) (C := RX2) (T := TX2) (N := 7) hx hb hts hin0 hown hK hP 0 rfl rfl 1 (by decide) (hw w_f_X2_13) (fun _ h9 => h9) rfl dX2_read_27 ?_
      refine lv_iconst (v := (-1 : Int32)) hx hb dX2_read_30 (by decide) ?_
      refine lv_aload_n hx hb dX2_read_31 rfl (lv_at hl 0 rfl) ?_
      refine va_get (D := D) (ci := 2) (v := .int u.2.2.2.2.2.2) (C := RX2) (T := TX2) (N := 7) hx hb hts hin0 hown hK hP 0 rfl rfl 6 (by decide) (hw w_f_X2_36) (fun _ h9 => h9) rfl dX2_read_32 ?_
      refine lv_isub hx hb dX2_read_35 ?_
      obtain ⟨b8, ht⟩ := oi_some ht
      refine va_iald hx hb hK hP 2 0 rfl rfl (ixk_in b8) dX2_read_36 ?_
      refine lv_iload_n hx hb dX2_read_37 rfl (lv_at hl 1 rfl) ?_
      refine lv_if_eq (tgt := 47) hx hb dX2_read_38 (by decide) (fun g9 => ?_) (fun g9 => ?_)
      · have ht := (if_pos g9).symm.trans ht
        refine lv_ldc (v := (65535 : Int32)) hx hb hown (hw w_k_X2_16) dX2_read_47 ?_
        exact K49 _ _ _ (u.1, u.2.1, u.2.2.1, u.2.2.2.1, u.2.2.2.2.1, (u.2.2.2.2.2.1 + (1 : Int32)), u.2.2.2.2.2.2) (65535 : Int32) (u.2.1 ((-1 : Int32) - u.2.2.2.2.2.2).toNatClampNeg) hP hD hS (lv_sub hl [] rfl) ht
      · have ht := (if_neg g9).symm.trans ht
        refine lv_sipush (v := (255 : Int32)) hx hb dX2_read_41 (by decide) ?_
        refine lv_goto (tgt := 49) hx hb dX2_read_44 (by decide) ?_
        exact K49 _ _ _ (u.1, u.2.1, u.2.2.1, u.2.2.2.1, u.2.2.2.2.1, (u.2.2.2.2.2.1 + (1 : Int32)), u.2.2.2.2.2.2) (255 : Int32) (u.2.1 ((-1 : Int32) - u.2.2.2.2.2.2).toNatClampNeg) hP hD hS (lv_sub hl [] rfl) ht
  · have ht := (if_neg g1).symm.trans ht
    refine lv_iconst (v := (0 : Int32)) hx hb dX2_read_17 (by decide) ?_
    have e9 := Option.some.inj ht
    subst hQ
    exact W.iret (v := (0 : Int32)) hx hb hr (fun t ht9 hW => ⟨⟨(0 : Int32), (u.1, u.2.1, u.2.2.1, u.2.2.2.1, u.2.2.2.2.1, (u.2.2.2.2.2.1 + (1 : Int32)), u.2.2.2.2.2.2), rfl, ⟨pr1 e9, pr2 e9⟩, ⟨by rw [ht9]; exact hP, va_K.moved hW.alike hK, hD⟩⟩, hS.F ht9⟩) hS.2.2 dX2_read_18
def fnD_doOne_140 (u : sD) : Option (Unit × sD) := some ((), u)
def fnD_doOne_126 (u : sD) (x2 : Int32) (x3 : Int32) (x6 : Int32) : Option (Unit × sD) := if x2 = (47 : Int32) then (fnD_doOne_140 u) else ((fnD_put u x6 x3 (0 : Int32)).bind (fun r16 => fnD_doOne_140 r16.2))
def fnD_doOne_124 (u : sD) (x2 : Int32) (x3 : Int32) (y0 : Int32) : Option (Unit × sD) := fnD_doOne_126 u x2 x3 y0
def fnD_doOne_46 (u : sD) (x2 : Int32) (x3 : Int32) (x4 : Int32) (y0 : Int32) : Option (Unit × sD) := if x2 = (3 : Int32) then ((fnD_tell u (((x4 >>> ((8 : Int32) &&& 31)) ||| ((x4 &&& (255 : Int32)) <<< ((8 : Int32) &&& 31))) &&& (255 : Int32)) (128 : Int32) (0 : Int32) (0 : Int32)).bind (fun r13 => fnD_doOne_126 r13.2 x2 x3 ((x4 >>> ((8 : Int32) &&& 31)) ||| ((x4 &&& (255 : Int32)) <<< ((8 : Int32) &&& 31))))) else (if (48 : Int32) ≤ x2 then ((fnD_moved u (x2 - (48 : Int32)) x4 y0).bind (fun r9 => fnD_doOne_124 r9.2 x2 x3 r9.1)) else ((fnD_one u (x2 - (40 : Int32)) x4 y0).bind (fun r11 => fnD_doOne_124 r11.2 x2 x3 r11.1)))
def fnD_doOne (u : sD) (a1 : Int32) (a2 : Int32) (a3 : Int32) : Option (Unit × sD) := (fnD_find u (a1 &&& (63 : Int32)) a3).bind (fun r1 => (fnD_read r1.2 a3).bind (fun r3 => if r3.2.2.2.2.1 ≤ 0 then (if a3 = 0 then (fnD_doOne_46 (r3.2.1, r3.2.2.1, r3.2.2.2.1, r3.2.2.2.2.1, r3.2.2.2.2.2.1, (r3.2.2.2.2.2.2.1 + (1 : Int32)), r3.2.2.2.2.2.2.2) a2 a3 r3.1 (32768 : Int32)) else (fnD_doOne_46 (r3.2.1, r3.2.2.1, r3.2.2.2.1, r3.2.2.2.2.1, r3.2.2.2.2.2.1, (r3.2.2.2.2.2.2.1 + (1 : Int32)), r3.2.2.2.2.2.2.2) a2 a3 r3.1 (128 : Int32))) else (some ((), r3.2))))
set_option maxRecDepth 100000 in
set_option maxHeartbeats 4000000 in
theorem ctD_doOne (l : Launch) (D : va_G) (kI : ClassId) (o aw ar : Nat) (sz : Nat) (u : sD) (a1 : Int32) (a2 : Int32) (a3 : Int32) (tg : Unit × sD) (ht : fnD_doOne u a1 a2 a3 = some tg) : Met l yX2_doOne (Cond.code yX2_doOne cX2_doOne 7 none :: wAll) ({ frames := 3, cells := 0, slots := 0, locals := 70 } : Room) (va_Pc [.ref o, .int a1, .int a2, .int a3] (prG D kI (clD o aw ar kI) sz u)) (va_Qv (fun (v : sD) => v = tg.2) (poG D kI (clD o aw ar kI) (va_A (clD o aw ar kI u) sz)) (va_A (clD o aw ar kI u) sz)) 0 0 (va_A (clD o aw ar kI u) sz) := by
  refine mOfW (cc := cX2_doOne) (maxL := 7) (ret := none) (by decide) rfl ?_
  intro p e s m args below meth c s₁ Q R hQ hR B hml hv
  obtain ⟨rfl, hsz, hP, hK, hD0⟩ := hv
  have hx := B.exec
  have hb := B.bytes
  have hr := B.returns
  have hts := atoms_spec (ws := Cond.code yX2_doOne cX2_doOne 7 none :: wAll) B.pre
  have hw : ∀ {w : Cond}, w ∈ wAll → w.before _ s = true := fun {w} h => hts w (List.mem_cons_of_mem _ h)
  have hown : s.vm.findClass RX2 = some m.cls := findClass_of_methodNamed B.named
  have hlocks := B.notSynchronized
  have hRf : 3 ≤ R.frames := by rw [hR]; exact Nat.le_refl _
  have hRl : 70 ≤ R.locals := by rw [hR]; exact Nat.le_refl _
  subst hsz
  have hD := hD0.self (sz := s.heap.size)
  generalize hAe : va_A (clD o aw ar kI u) s.heap.size = A at hD  hQ
  have hA : ∀ q : Nat, s.heap.size ≤ q → A q := fun q h => by rw [← hAe]; exact Or.inr h
  have hl := lv_entry ([.ref o, .int a1, .int a2, .int a3]) (n := 7) (Nat.le_of_ble_eq_true rfl)
  rw [lg_entry_eq]
  generalize (lg_sl ([.ref o, .int a1, .int a2, .int a3]) ++ List.replicate (7 - (lg_sl ([.ref o, .int a1, .int a2, .int a3])).length) Slot.unset).toArray = ls at hl ⊢
  have hl : lv_has ls 7 [(0, .ref o), (1, .int a1), (2, .int a2), (3, .int a3)] := hl
  have hin0 : ∀ w ∈ u_ws RX2 TX2 7, w ∈ (Cond.code yX2_doOne cX2_doOne 7 none :: wAll) := fun w h => List.mem_cons_of_mem _ (w_flX2 w h)
  have K140 : ∀ (H : Heap) (locs : List Loc) (ls : Array Slot) (u : sD) , va_P D vwCl (clD o aw ar kI u) H → va_D A (clD o aw ar kI u) → va_S A s.heap H locs → lv_has ls 7 [] → fnD_doOne_140 u  = some tg → W p l e R s m ([.ref o, .int a1, .int a2, .int a3] : List Value).toArray below meth c H locs 0 0 Q (F0 m 140 ls []) := by
    intro H locs ls u  hP hD hS hl ht
    unfold fnD_doOne_140 at ht
    have e9 := Option.some.inj ht
    subst hQ
    exact W.vret hx hb hr (fun t ht9 hW => ⟨⟨u, rfl, pr2 e9, ⟨by rw [ht9]; exact hP, va_K.moved hW.alike hK, hD⟩⟩, hS.F ht9⟩) hS.2.2 dX2_doOne_140
  have K126 : ∀ (H : Heap) (locs : List Loc) (ls : Array Slot) (u : sD) (x2 : Int32) (x3 : Int32) (x6 : Int32) , va_P D vwCl (clD o aw ar kI u) H → va_D A (clD o aw ar kI u) → va_S A s.heap H locs → lv_has ls 7 [(0, .ref o), (2, .int x2), (3, .int x3), (6, .int x6)] → fnD_doOne_126 u x2 x3 x6 = some tg → W p l e R s m ([.ref o, .int a1, .int a2, .int a3] : List Value).toArray below meth c H locs 0 0 Q (F0 m 126 ls []) := by
    intro H locs ls u x2 x3 x6 hP hD hS hl ht
    unfold fnD_doOne_126 at ht
    refine lv_iload_n hx hb dX2_doOne_126 rfl (lv_at hl 1 rfl) ?_
    refine lv_bipush (v := (47 : Int32)) hx hb dX2_doOne_127 (by decide) ?_
    refine lv_icmp_eq (tgt := 140) hx hb dX2_doOne_129 (by decide) (fun g15 => ?_) (fun g15 => ?_)
    · have ht := (if_pos g15).symm.trans ht
      exact K140 _ _ _ u hP hD hS (lv_sub hl [] rfl) ht
    · have ht := (if_neg g15).symm.trans ht
      refine lv_aload_n hx hb dX2_doOne_132 rfl (lv_at hl 0 rfl) ?_
      refine lv_iload hx hb dX2_doOne_133 (lv_at hl 3 rfl) ?_
      refine lv_iload_n hx hb dX2_doOne_135 rfl (lv_at hl 2 rfl) ?_
      refine lv_iconst (v := (0 : Int32)) hx hb dX2_doOne_136 (by decide) ?_
      obtain ⟨r16, h17, ht⟩ := ob_some ht
      refine kG_v (cl := clD o aw ar kI) (u := u) (va_runV (As := [.int x6, .int x3, .int (0 : Int32)]) (rest := []) ⟨hx, hb, hml, hown, hts⟩ (ctD_put l D kI o aw ar H.size u x6 x3 (0 : Int32) r16 h17) (cwV 3 hts (gV w_m_X2_67 w_im_yX2_put w_sel_yX2_put w_init_MicroMillModel w_co_yX2_put) rfl rfl rfl (by decide +kernel) ⟨Nat.le_trans (Nat.le_of_ble_eq_true rfl) hRf, Nat.le_trans (Nat.le_of_ble_eq_true rfl) hRl⟩) (preG (cl := clD o aw ar kI) (u := u) (N := 7) (ci := 2) hK hP (hD.weaken (fun _ _ _ _ => trivial)) rfl rfl _) rfl rfl hl.1 rfl (lv_room (Nat.le_of_ble_eq_true rfl)) dX2_doOne_137 ⟨Nat.zero_le _, Nat.zero_le _⟩) hD hS hA (fun H locs hP hD hS => ?_)
      exact K140 _ _ _ r16.2 hP hD hS (lv_sub hl [] rfl) ht
  have K124 : ∀ (H : Heap) (locs : List Loc) (ls : Array Slot) (u : sD) (x2 : Int32) (x3 : Int32) (y0 : Int32) , va_P D vwCl (clD o aw ar kI u) H → va_D A (clD o aw ar kI u) → va_S A s.heap H locs → lv_has ls 7 [(0, .ref o), (2, .int x2), (3, .int x3)] → fnD_doOne_124 u x2 x3 y0 = some tg → W p l e R s m ([.ref o, .int a1, .int a2, .int a3] : List Value).toArray below meth c H locs 0 0 Q (F0 m 124 ls [.int y0]) := by
    intro H locs ls u x2 x3 y0 hP hD hS hl ht
    unfold fnD_doOne_124 at ht
    refine lv_istore (lv' := [(6, .int y0), (0, .ref o), (2, .int x2), (3, .int x3)]) hx hb dX2_doOne_124 hl (by decide) rfl (fun ls hl => ?_)
    exact K126 _ _ _ u x2 x3 y0 hP hD hS (lv_sub hl [1, 2, 3, 0] rfl) ht
  have K46 : ∀ (H : Heap) (locs : List Loc) (ls : Array Slot) (u : sD) (x2 : Int32) (x3 : Int32) (x4 : Int32) (y0 : Int32) , va_P D vwCl (clD o aw ar kI u) H → va_D A (clD o aw ar kI u) → va_S A s.heap H locs → lv_has ls 7 [(0, .ref o), (2, .int x2), (3, .int x3), (4, .int x4)] → fnD_doOne_46 u x2 x3 x4 y0 = some tg → W p l e R s m ([.ref o, .int a1, .int a2, .int a3] : List Value).toArray below meth c H locs 0 0 Q (F0 m 46 ls [.int y0]) := by
    intro H locs ls u x2 x3 x4 y0 hP hD hS hl ht
    unfold fnD_doOne_46 at ht
    refine lv_istore (lv' := [(5, .int y0), (0, .ref o), (2, .int x2), (3, .int x3), (4, .int x4)]) hx hb dX2_doOne_46 hl (by decide) rfl (fun ls hl => ?_)
    refine lv_iconst (v := (0 : Int32)) hx hb dX2_doOne_48 (by decide) ?_
    refine lv_istore (lv' := [(6, .int (0 : Int32)), (5, .int y0), (0, .ref o), (2, .int x2), (3, .int x3), (4, .int x4)]) hx hb dX2_doOne_49 hl (by decide) rfl (fun ls hl => ?_)
    refine lv_iload_n hx hb dX2_doOne_51 rfl (lv_at hl 3 rfl) ?_
    refine lv_iconst (v := (3 : Int32)) hx hb dX2_doOne_52 (by decide) ?_
    refine lv_icmp_ne (tgt := 91) hx hb dX2_doOne_53 (by decide) (fun g7 => ?_) (fun g7 => ?_)
    · have ht := (if_neg g7).symm.trans ht
      refine lv_iload_n hx hb dX2_doOne_91 rfl (lv_at hl 3 rfl) ?_
      refine lv_bipush (v := (48 : Int32)) hx hb dX2_doOne_92 (by decide) ?_
      refine lv_icmp_ge (tgt := 112) hx hb dX2_doOne_94 (by decide) (fun g8 => ?_) (fun g8 => ?_)
      · have ht := (if_pos g8).symm.trans ht
        refine lv_aload_n hx hb dX2_doOne_112 rfl (lv_at hl 2 rfl) ?_
        refine lv_iload_n hx hb dX2_doOne_113 rfl (lv_at hl 3 rfl) ?_
        refine lv_bipush (v := (48 : Int32)) hx hb dX2_doOne_114 (by decide) ?_
        refine lv_isub hx hb dX2_doOne_116 ?_
        refine lv_iload hx hb dX2_doOne_117 (lv_at hl 5 rfl) ?_
        refine lv_iload hx hb dX2_doOne_119 (lv_at hl 1 rfl) ?_
        obtain ⟨r9, h10, ht⟩ := ob_some ht
        refine kG_i (cl := clD o aw ar kI) (u := u) (va_runV (As := [.int (x2 - (48 : Int32)), .int x4, .int y0]) (rest := []) ⟨hx, hb, hml, hown, hts⟩ (ctD_moved l D kI o aw ar H.size u (x2 - (48 : Int32)) x4 y0 r9 h10) (cwV 3 hts (gV w_m_X2_75 w_im_yX2_moved w_sel_yX2_moved w_init_MicroMillModel w_co_yX2_moved) rfl rfl rfl (by decide +kernel) ⟨Nat.le_trans (Nat.le_of_ble_eq_true rfl) hRf, Nat.le_trans (Nat.le_of_ble_eq_true rfl) hRl⟩) (preG (cl := clD o aw ar kI) (u := u) (N := 7) (ci := 2) hK hP (hD.weaken (fun _ _ _ _ => trivial)) rfl rfl _) rfl rfl hl.1 rfl (lv_room (Nat.le_of_ble_eq_true rfl)) dX2_doOne_121 ⟨Nat.zero_le _, Nat.zero_le _⟩) hD hS hA (fun H locs hP hD hS => ?_)
        exact K124 _ _ _ r9.2 x2 x3 r9.1 hP hD hS (lv_sub hl [2, 3, 4] rfl) ht
      · have ht := (if_neg g8).symm.trans ht
        refine lv_aload_n hx hb dX2_doOne_97 rfl (lv_at hl 2 rfl) ?_
        refine lv_iload_n hx hb dX2_doOne_98 rfl (lv_at hl 3 rfl) ?_
        refine lv_bipush (v := (40 : Int32)) hx hb dX2_doOne_99 (by decide) ?_
        refine lv_isub hx hb dX2_doOne_101 ?_
        refine lv_iload hx hb dX2_doOne_102 (lv_at hl 5 rfl) ?_
        refine lv_iload hx hb dX2_doOne_104 (lv_at hl 1 rfl) ?_
        obtain ⟨r11, h12, ht⟩ := ob_some ht
        refine kG_i (cl := clD o aw ar kI) (u := u) (va_runV (As := [.int (x2 - (40 : Int32)), .int x4, .int y0]) (rest := []) ⟨hx, hb, hml, hown, hts⟩ (ctD_one l D kI o aw ar H.size u (x2 - (40 : Int32)) x4 y0 r11 h12) (cwV 3 hts (gV w_m_X2_71 w_im_yX2_one w_sel_yX2_one w_init_MicroMillModel w_co_yX2_one) rfl rfl rfl (by decide +kernel) ⟨Nat.le_trans (Nat.le_of_ble_eq_true rfl) hRf, Nat.le_trans (Nat.le_of_ble_eq_true rfl) hRl⟩) (preG (cl := clD o aw ar kI) (u := u) (N := 7) (ci := 2) hK hP (hD.weaken (fun _ _ _ _ => trivial)) rfl rfl _) rfl rfl hl.1 rfl (lv_room (Nat.le_of_ble_eq_true rfl)) dX2_doOne_106 ⟨Nat.zero_le _, Nat.zero_le _⟩) hD hS hA (fun H locs hP hD hS => ?_)
        refine lv_goto (tgt := 124) hx hb dX2_doOne_109 (by decide) ?_
        exact K124 _ _ _ r11.2 x2 x3 r11.1 hP hD hS (lv_sub hl [2, 3, 4] rfl) ht
    · have ht := (if_pos g7).symm.trans ht
      refine lv_iload hx hb dX2_doOne_56 (lv_at hl 5 rfl) ?_
      refine lv_bipush (v := (8 : Int32)) hx hb dX2_doOne_58 (by decide) ?_
      refine lv_ishr hx hb dX2_doOne_60 ?_
      refine lv_iload hx hb dX2_doOne_61 (lv_at hl 5 rfl) ?_
      refine lv_sipush (v := (255 : Int32)) hx hb dX2_doOne_63 (by decide) ?_
      refine lv_iand hx hb dX2_doOne_66 ?_
      refine lv_bipush (v := (8 : Int32)) hx hb dX2_doOne_67 (by decide) ?_
      refine lv_ishl hx hb dX2_doOne_69 ?_
      refine lv_ior hx hb dX2_doOne_70 ?_
      refine lv_istore (lv' := [(6, .int ((x4 >>> ((8 : Int32) &&& 31)) ||| ((x4 &&& (255 : Int32)) <<< ((8 : Int32) &&& 31)))), (5, .int y0), (0, .ref o), (2, .int x2), (3, .int x3), (4, .int x4)]) hx hb dX2_doOne_71 hl (by decide) rfl (fun ls hl => ?_)
      refine lv_aload_n hx hb dX2_doOne_73 rfl (lv_at hl 2 rfl) ?_
      refine lv_iload hx hb dX2_doOne_74 (lv_at hl 0 rfl) ?_
      refine lv_sipush (v := (255 : Int32)) hx hb dX2_doOne_76 (by decide) ?_
      refine lv_iand hx hb dX2_doOne_79 ?_
      refine lv_sipush (v := (128 : Int32)) hx hb dX2_doOne_80 (by decide) ?_
      refine lv_iconst (v := (0 : Int32)) hx hb dX2_doOne_83 (by decide) ?_
      refine lv_iconst (v := (0 : Int32)) hx hb dX2_doOne_84 (by decide) ?_
      obtain ⟨r13, h14, ht⟩ := ob_some ht
      refine kG_v (cl := clD o aw ar kI) (u := u) (va_runV (As := [.int (((x4 >>> ((8 : Int32) &&& 31)) ||| ((x4 &&& (255 : Int32)) <<< ((8 : Int32) &&& 31))) &&& (255 : Int32)), .int (128 : Int32), .int (0 : Int32), .int (0 : Int32)]) (rest := []) ⟨hx, hb, hml, hown, hts⟩ (ctD_tell l D kI o aw ar H.size u (((x4 >>> ((8 : Int32) &&& 31)) ||| ((x4 &&& (255 : Int32)) <<< ((8 : Int32) &&& 31))) &&& (255 : Int32)) (128 : Int32) (0 : Int32) (0 : Int32) r13 h14) (cwV 4 hts (gV w_m_X2_50 w_im_yX2_tell w_sel_yX2_tell w_init_MicroMillModel w_co_yX2_tell) rfl rfl rfl (by decide +kernel) ⟨Nat.le_trans (Nat.le_of_ble_eq_true rfl) hRf, Nat.le_trans (Nat.le_of_ble_eq_true rfl) hRl⟩) (preG (cl := clD o aw ar kI) (u := u) (N := 7) (ci := 2) hK hP (hD.weaken (fun _ _ _ _ => trivial)) rfl rfl _) rfl rfl hl.1 rfl (lv_room (Nat.le_of_ble_eq_true rfl)) dX2_doOne_85 ⟨Nat.zero_le _, Nat.zero_le _⟩) hD hS hA (fun H locs hP hD hS => ?_)
      refine lv_goto (tgt := 126) hx hb dX2_doOne_88 (by decide) ?_
      exact K126 _ _ _ r13.2 x2 x3 ((x4 >>> ((8 : Int32) &&& 31)) ||| ((x4 &&& (255 : Int32)) <<< ((8 : Int32) &&& 31))) hP hD hS (lv_sub hl [2, 3, 4, 0] rfl) ht
  unfold fnD_doOne at ht
  obtain ⟨H, hHe⟩ : ∃ H : Heap, H = s.heap := ⟨_, rfl⟩
  have hP : va_P D vwCl (clD o aw ar kI u) H := by rw [hHe]; exact hP
  have hS : va_S A s.heap H [] := by rw [hHe]; exact va_S.rf
  rw [← hHe]
  refine lv_aload_n hx hb dX2_doOne_0 rfl (lv_at hl 0 rfl) ?_
  refine lv_iload_n hx hb dX2_doOne_1 rfl (lv_at hl 1 rfl) ?_
  refine lv_bipush (v := (63 : Int32)) hx hb dX2_doOne_2 (by decide) ?_
  refine lv_iand hx hb dX2_doOne_4 ?_
  refine lv_iload_n hx hb dX2_doOne_5 rfl (lv_at hl 3 rfl) ?_
  obtain ⟨r1, h2, ht⟩ := ob_some ht
  refine kG_v (cl := clD o aw ar kI) (u := u) (va_runV (As := [.int (a1 &&& (63 : Int32)), .int a3]) (rest := []) ⟨hx, hb, hml, hown, hts⟩ (ctD_find l D kI o aw ar H.size u (a1 &&& (63 : Int32)) a3 r1 h2) (cwV 2 hts (gV w_m_X2_54 w_im_yX2_find w_sel_yX2_find w_init_MicroMillModel w_co_yX2_find) rfl rfl rfl (by decide +kernel) ⟨Nat.le_trans (Nat.le_of_ble_eq_true rfl) hRf, Nat.le_trans (Nat.le_of_ble_eq_true rfl) hRl⟩) (preG (cl := clD o aw ar kI) (u := u) (N := 7) (ci := 2) hK hP (hD.weaken (fun _ _ _ _ => trivial)) rfl rfl _) rfl rfl hl.1 rfl (lv_room (Nat.le_of_ble_eq_true rfl)) dX2_doOne_6 ⟨Nat.zero_le _, Nat.zero_le _⟩) hD hS hA (fun H locs hP hD hS => ?_)
  refine lv_aload_n hx hb dX2_doOne_9 rfl (lv_at hl 0 rfl) ?_
  refine lv_iload_n hx hb dX2_doOne_10 rfl (lv_at hl 3 rfl) ?_
  obtain ⟨r3, h4, ht⟩ := ob_some ht
  refine kG_i (cl := clD o aw ar kI) (u := r1.2) (va_runV (As := [.int a3]) (rest := []) ⟨hx, hb, hml, hown, hts⟩ (ctD_read l D kI o aw ar H.size r1.2 a3 r3 h4) (cwV 1 hts (gV w_m_X2_58 w_im_yX2_read w_sel_yX2_read w_init_MicroMillModel w_co_yX2_read) rfl rfl rfl (by decide +kernel) ⟨Nat.le_trans (Nat.le_of_ble_eq_true rfl) hRf, Nat.le_trans (Nat.le_of_ble_eq_true rfl) hRl⟩) (preG (cl := clD o aw ar kI) (u := r1.2) (N := 7) (ci := 2) hK hP (hD.weaken (fun _ _ _ _ => trivial)) rfl rfl _) rfl rfl hl.1 rfl (lv_room (Nat.le_of_ble_eq_true rfl)) dX2_doOne_11 ⟨Nat.zero_le _, Nat.zero_le _⟩) hD hS hA (fun H locs hP hD hS => ?_)
  refine lv_istore (lv' := [(4, .int r3.1), (0, .ref o), (1, .int a1), (2, .int a2), (3, .int a3)]) hx hb dX2_doOne_14 hl (by decide) rfl (fun ls hl => ?_)
  refine lv_aload_n hx hb dX2_doOne_16 rfl (lv_at hl 1 rfl) ?_
  refine va_get (D := D) (ci := 2) (v := .int r3.2.2.2.2.1) (C := RX2) (T := TX2) (N := 7) hx hb hts hin0 hown hK hP 0 rfl rfl 3 (by decide) (hw w_f_X2_25) (fun _ h9 => h9) rfl dX2_doOne_17 ?_
  refine lv_if_le (tgt := 24) hx hb dX2_doOne_20 (by decide) (fun g5 => ?_) (fun g5 => ?_)
  · have ht := (if_pos g5).symm.trans ht
    refine lv_aload_n hx hb dX2_doOne_24 rfl (lv_at hl 1 rfl) ?_
    refine lv_dup hx hb dX2_doOne_25 rfl ?_
    refine va_get (D := D) (ci := 2) (v := .int r3.2.2.2.2.2.2.1) (C := RX2) (T := TX2) (N := 7) hx hb hts hin0 hown hK hP 0 rfl rfl 5 (by decide) (hw w_f_X2_39) (fun _ h9 => h9) rfl dX2_doOne_26 ?_
    refine lv_iconst (v := (1 : Int32)) hx hb dX2_doOne_29 (by decide) ?_
    refine lv_iadd hx hb dX2_doOne_30 ?_
    refine va_put (D := D) (ci := 2) (v := .int (r3.2.2.2.2.2.2.1 + (1 : Int32))) (ty := .int) (C := RX2) (T := TX2) (N := 7) hx hb hts hin0 tyX2 tyX2_ok nmX2 hown hK hP hD hS 0 rfl rfl 5 (by decide) (hw w_f_X2_39) (fun _ h9 => h9) rfl (by decide +kernel) rfl rfl (Nat.le_of_ble_eq_true rfl) dX2_doOne_31 (fun H locs hP hD hS => ?_)
    have hP : va_P D vwCl (clD o aw ar kI (r3.2.1, r3.2.2.1, r3.2.2.2.1, r3.2.2.2.2.1, r3.2.2.2.2.2.1, (r3.2.2.2.2.2.2.1 + (1 : Int32)), r3.2.2.2.2.2.2.2)) H := hP
    have hD : va_D A (clD o aw ar kI (r3.2.1, r3.2.2.1, r3.2.2.2.1, r3.2.2.2.2.1, r3.2.2.2.2.2.1, (r3.2.2.2.2.2.2.1 + (1 : Int32)), r3.2.2.2.2.2.2.2)) := hD
    refine lv_iload_n hx hb dX2_doOne_34 rfl (lv_at hl 4 rfl) ?_
    refine lv_if_eq (tgt := 44) hx hb dX2_doOne_35 (by decide) (fun g6 => ?_) (fun g6 => ?_)
    · have ht := (if_pos g6).symm.trans ht
      refine lv_ldc (v := (32768 : Int32)) hx hb hown (hw w_k_X2_62) dX2_doOne_44 ?_
      exact K46 _ _ _ (r3.2.1, r3.2.2.1, r3.2.2.2.1, r3.2.2.2.2.1, r3.2.2.2.2.2.1, (r3.2.2.2.2.2.2.1 + (1 : Int32)), r3.2.2.2.2.2.2.2) a2 a3 r3.1 (32768 : Int32) hP hD hS (lv_sub hl [1, 3, 4, 0] rfl) ht
    · have ht := (if_neg g6).symm.trans ht
      refine lv_sipush (v := (128 : Int32)) hx hb dX2_doOne_38 (by decide) ?_
      refine lv_goto (tgt := 46) hx hb dX2_doOne_41 (by decide) ?_
      exact K46 _ _ _ (r3.2.1, r3.2.2.1, r3.2.2.2.1, r3.2.2.2.2.1, r3.2.2.2.2.2.1, (r3.2.2.2.2.2.2.1 + (1 : Int32)), r3.2.2.2.2.2.2.2) a2 a3 r3.1 (128 : Int32) hP hD hS (lv_sub hl [1, 3, 4, 0] rfl) ht
  · have ht := (if_neg g5).symm.trans ht
    have e9 := Option.some.inj ht
    subst hQ
    exact W.vret hx hb hr (fun t ht9 hW => ⟨⟨r3.2, rfl, pr2 e9, ⟨by rw [ht9]; exact hP, va_K.moved hW.alike hK, hD⟩⟩, hS.F ht9⟩) hS.2.2 dX2_doOne_23
def fnD_flag_41 (u : sD) (y0 : Int32) : Option (Unit × sD) := some ((), (u.1, u.2.1, y0, u.2.2.2.1, u.2.2.2.2.1, u.2.2.2.2.2.1, u.2.2.2.2.2.2))
def fnD_flag (u : sD) (a1 : Int32) : Option (Unit × sD) := if (a1 &&& (16 : Int32)) = 0 then (fnD_flag_41 (u.1, u.2.1, u.2.2.1, u.2.2.2.1, u.2.2.2.2.1, (u.2.2.2.2.2.1 + (1 : Int32)), u.2.2.2.2.2.2) ((u.2.2.1 &&& (a1 ^^^ (-1 : Int32))) &&& (15 : Int32))) else (fnD_flag_41 (u.1, u.2.1, u.2.2.1, u.2.2.2.1, u.2.2.2.2.1, (u.2.2.2.2.2.1 + (1 : Int32)), u.2.2.2.2.2.2) (u.2.2.1 ||| (a1 &&& (15 : Int32))))
set_option maxRecDepth 100000 in
set_option maxHeartbeats 4000000 in
theorem ctD_flag (l : Launch) (D : va_G) (kI : ClassId) (o aw ar : Nat) (sz : Nat) (u : sD) (a1 : Int32) (tg : Unit × sD) (ht : fnD_flag u a1 = some tg) : Met l yX2_flag (Cond.code yX2_flag cX2_flag 2 none :: wAll) ({ frames := 0, cells := 0, slots := 0, locals := 0 } : Room) (va_Pc [.ref o, .int a1] (prG D kI (clD o aw ar kI) sz u)) (va_Qv (fun (v : sD) => v = tg.2) (poG D kI (clD o aw ar kI) (va_A (clD o aw ar kI u) sz)) (va_A (clD o aw ar kI u) sz)) 0 0 (va_A (clD o aw ar kI u) sz) := by
  refine mOfW (cc := cX2_flag) (maxL := 2) (ret := none) (by decide) rfl ?_
  intro p e s m args below meth c s₁ Q R hQ hR B hml hv
  obtain ⟨rfl, hsz, hP, hK, hD0⟩ := hv
  have hx := B.exec
  have hb := B.bytes
  have hr := B.returns
  have hts := atoms_spec (ws := Cond.code yX2_flag cX2_flag 2 none :: wAll) B.pre
  have hw : ∀ {w : Cond}, w ∈ wAll → w.before _ s = true := fun {w} h => hts w (List.mem_cons_of_mem _ h)
  have hown : s.vm.findClass RX2 = some m.cls := findClass_of_methodNamed B.named
  have hlocks := B.notSynchronized
  have hRf : 0 ≤ R.frames := by rw [hR]; exact Nat.le_refl _
  have hRl : 0 ≤ R.locals := by rw [hR]; exact Nat.le_refl _
  subst hsz
  have hD := hD0.self (sz := s.heap.size)
  generalize hAe : va_A (clD o aw ar kI u) s.heap.size = A at hD  hQ
  have hA : ∀ q : Nat, s.heap.size ≤ q → A q := fun q h => by rw [← hAe]; exact Or.inr h
  have hl := lv_entry ([.ref o, .int a1]) (n := 2) (Nat.le_of_ble_eq_true rfl)
  rw [lg_entry_eq]
  generalize (lg_sl ([.ref o, .int a1]) ++ List.replicate (2 - (lg_sl ([.ref o, .int a1])).length) Slot.unset).toArray = ls at hl ⊢
  have hl : lv_has ls 2 [(0, .ref o), (1, .int a1)] := hl
  have hin0 : ∀ w ∈ u_ws RX2 TX2 7, w ∈ (Cond.code yX2_flag cX2_flag 2 none :: wAll) := fun w h => List.mem_cons_of_mem _ (w_flX2 w h)
  have K41 : ∀ (H : Heap) (locs : List Loc) (ls : Array Slot) (u : sD) (y0 : Int32) , va_P D vwCl (clD o aw ar kI u) H → va_D A (clD o aw ar kI u) → va_S A s.heap H locs → lv_has ls 2 [] → fnD_flag_41 u y0 = some tg → W p l e R s m ([.ref o, .int a1] : List Value).toArray below meth c H locs 0 0 Q (F0 m 41 ls [.int y0, .ref o]) := by
    intro H locs ls u y0 hP hD hS hl ht
    unfold fnD_flag_41 at ht
    refine va_put (D := D) (ci := 2) (v := .int y0) (ty := .int) (C := RX2) (T := TX2) (N := 7) hx hb hts hin0 tyX2 tyX2_ok nmX2 hown hK hP hD hS 0 rfl rfl 2 (by decide) (hw w_f_X2_17) (fun _ h9 => h9) rfl (by decide +kernel) rfl rfl (Nat.le_of_ble_eq_true rfl) dX2_flag_41 (fun H locs hP hD hS => ?_)
    have hP : va_P D vwCl (clD o aw ar kI (u.1, u.2.1, y0, u.2.2.2.1, u.2.2.2.2.1, u.2.2.2.2.2.1, u.2.2.2.2.2.2)) H := hP
    have hD : va_D A (clD o aw ar kI (u.1, u.2.1, y0, u.2.2.2.1, u.2.2.2.2.1, u.2.2.2.2.2.1, u.2.2.2.2.2.2)) := hD
    have e9 := Option.some.inj ht
    subst hQ
    exact W.vret hx hb hr (fun t ht9 hW => ⟨⟨(u.1, u.2.1, y0, u.2.2.2.1, u.2.2.2.2.1, u.2.2.2.2.2.1, u.2.2.2.2.2.2), rfl, pr2 e9, ⟨by rw [ht9]; exact hP, va_K.moved hW.alike hK, hD⟩⟩, hS.F ht9⟩) hS.2.2 dX2_flag_44
  unfold fnD_flag at ht
  obtain ⟨H, hHe⟩ : ∃ H : Heap, H = s.heap := ⟨_, rfl⟩
  have hP : va_P D vwCl (clD o aw ar kI u) H := by rw [hHe]; exact hP
  have hS : va_S A s.heap H [] := by rw [hHe]; exact va_S.rf
  rw [← hHe]
  refine lv_aload_n hx hb dX2_flag_0 rfl (lv_at hl 0 rfl) ?_
  refine lv_dup hx hb dX2_flag_1 rfl ?_
  refine va_get (D := D) (ci := 2) (v := .int u.2.2.2.2.2.1) (C := RX2) (T := TX2) (N := 7) hx hb hts hin0 hown hK hP 0 rfl rfl 5 (by decide) (hw w_f_X2_39) (fun _ h9 => h9) rfl dX2_flag_2 ?_
  refine lv_iconst (v := (1 : Int32)) hx hb dX2_flag_5 (by decide) ?_
  refine lv_iadd hx hb dX2_flag_6 ?_
  refine va_put (D := D) (ci := 2) (v := .int (u.2.2.2.2.2.1 + (1 : Int32))) (ty := .int) (C := RX2) (T := TX2) (N := 7) hx hb hts hin0 tyX2 tyX2_ok nmX2 hown hK hP hD hS 0 rfl rfl 5 (by decide) (hw w_f_X2_39) (fun _ h9 => h9) rfl (by decide +kernel) rfl rfl (Nat.le_of_ble_eq_true rfl) dX2_flag_7 (fun H locs hP hD hS => ?_)
  have hP : va_P D vwCl (clD o aw ar kI (u.1, u.2.1, u.2.2.1, u.2.2.2.1, u.2.2.2.2.1, (u.2.2.2.2.2.1 + (1 : Int32)), u.2.2.2.2.2.2)) H := hP
  have hD : va_D A (clD o aw ar kI (u.1, u.2.1, u.2.2.1, u.2.2.2.1, u.2.2.2.2.1, (u.2.2.2.2.2.1 + (1 : Int32)), u.2.2.2.2.2.2)) := hD
  refine lv_aload_n hx hb dX2_flag_10 rfl (lv_at hl 0 rfl) ?_
  refine lv_iload_n hx hb dX2_flag_11 rfl (lv_at hl 1 rfl) ?_
  refine lv_bipush (v := (16 : Int32)) hx hb dX2_flag_12 (by decide) ?_
  refine lv_iand hx hb dX2_flag_14 ?_
  refine lv_if_eq (tgt := 30) hx hb dX2_flag_15 (by decide) (fun g1 => ?_) (fun g1 => ?_)
  · have ht := (if_pos g1).symm.trans ht
    refine lv_aload_n hx hb dX2_flag_30 rfl (lv_at hl 0 rfl) ?_
    refine va_get (D := D) (ci := 2) (v := .int u.2.2.1) (C := RX2) (T := TX2) (N := 7) hx hb hts hin0 hown hK hP 0 rfl rfl 2 (by decide) (hw w_f_X2_17) (fun _ h9 => h9) rfl dX2_flag_31 ?_
    refine lv_iload_n hx hb dX2_flag_34 rfl (lv_at hl 1 rfl) ?_
    refine lv_iconst (v := (-1 : Int32)) hx hb dX2_flag_35 (by decide) ?_
    refine lv_ixor hx hb dX2_flag_36 ?_
    refine lv_iand hx hb dX2_flag_37 ?_
    refine lv_bipush (v := (15 : Int32)) hx hb dX2_flag_38 (by decide) ?_
    refine lv_iand hx hb dX2_flag_40 ?_
    exact K41 _ _ _ (u.1, u.2.1, u.2.2.1, u.2.2.2.1, u.2.2.2.2.1, (u.2.2.2.2.2.1 + (1 : Int32)), u.2.2.2.2.2.2) ((u.2.2.1 &&& (a1 ^^^ (-1 : Int32))) &&& (15 : Int32)) hP hD hS (lv_sub hl [] rfl) ht
  · have ht := (if_neg g1).symm.trans ht
    refine lv_aload_n hx hb dX2_flag_18 rfl (lv_at hl 0 rfl) ?_
    refine va_get (D := D) (ci := 2) (v := .int u.2.2.1) (C := RX2) (T := TX2) (N := 7) hx hb hts hin0 hown hK hP 0 rfl rfl 2 (by decide) (hw w_f_X2_17) (fun _ h9 => h9) rfl dX2_flag_19 ?_
    refine lv_iload_n hx hb dX2_flag_22 rfl (lv_at hl 1 rfl) ?_
    refine lv_bipush (v := (15 : Int32)) hx hb dX2_flag_23 (by decide) ?_
    refine lv_iand hx hb dX2_flag_25 ?_
    refine lv_ior hx hb dX2_flag_26 ?_
    refine lv_goto (tgt := 41) hx hb dX2_flag_27 (by decide) ?_
    exact K41 _ _ _ (u.1, u.2.1, u.2.2.1, u.2.2.2.1, u.2.2.2.2.1, (u.2.2.2.2.2.1 + (1 : Int32)), u.2.2.2.2.2.2) (u.2.2.1 ||| (a1 &&& (15 : Int32))) hP hD hS (lv_sub hl [] rfl) ht
def fnD_jump (u : sD) (a1 : Int32) : Option (Unit × sD) := if ((a1 >>> ((3 : Int32) &&& 31)) &&& (7 : Int32)) = 0 then (some ((), (u.1, u.2.1, u.2.2.1, (2 : Int32), u.2.2.2.2.1, u.2.2.2.2.2.1, u.2.2.2.2.2.2))) else ((fnD_find u (a1 &&& (63 : Int32)) (0 : Int32)).bind (fun r2 => if r2.2.2.2.2.1 ≤ 0 then (if (a1 >>> ((6 : Int32) &&& 31)) = (1 : Int32) then (if ixk (7 : Int32) 8 then (some ((), (r2.2.1, (upd r2.2.2.1 (7 : Int32).toNatClampNeg r2.2.2.2.2.2.2.2), r2.2.2.2.1, r2.2.2.2.2.1, r2.2.2.2.2.2.1, (r2.2.2.2.2.2.2.1 + (1 : Int32)), r2.2.2.2.2.2.2.2))) else none) else ((fnD_add r2.2 (6 : Int32) (-2 : Int32)).bind (fun r6 => if ixk (6 : Int32) 8 then ((fnD_word r6.2 (r6.2.2.1 (6 : Int32).toNatClampNeg)).bind (fun r9 => if r9.2.2.2.2.1 ≤ 0 then (if ixk (6 : Int32) 8 then (if ixk ((a1 >>> ((6 : Int32) &&& 31)) &&& (7 : Int32)) 8 then (if ixk ((r9.2.2.1 (6 : Int32).toNatClampNeg) / (2 : Int32)) 2048 then (if ixk (7 : Int32) 8 then (if ixk ((a1 >>> ((6 : Int32) &&& 31)) &&& (7 : Int32)) 8 then (if ixk (7 : Int32) 8 then (some ((), ((upd r9.2.1 ((r9.2.2.1 (6 : Int32).toNatClampNeg) / (2 : Int32)).toNatClampNeg (r9.2.2.1 ((a1 >>> ((6 : Int32) &&& 31)) &&& (7 : Int32)).toNatClampNeg)), (upd (upd r9.2.2.1 ((a1 >>> ((6 : Int32) &&& 31)) &&& (7 : Int32)).toNatClampNeg (r9.2.2.1 (7 : Int32).toNatClampNeg)) (7 : Int32).toNatClampNeg r2.2.2.2.2.2.2.2), r9.2.2.2.1, r9.2.2.2.2.1, r9.2.2.2.2.2.1, (r9.2.2.2.2.2.2.1 + (6 : Int32)), r9.2.2.2.2.2.2.2))) else none) else none) else none) else none) else none) else none) else (some ((), r9.2)))) else none))) else (some ((), r2.2))))
set_option maxRecDepth 100000 in
set_option maxHeartbeats 4000000 in
theorem ctD_jump (l : Launch) (D : va_G) (kI : ClassId) (o aw ar : Nat) (sz : Nat) (u : sD) (a1 : Int32) (tg : Unit × sD) (ht : fnD_jump u a1 = some tg) : Met l yX2_jump (Cond.code yX2_jump cX2_jump 5 none :: wAll) ({ frames := 3, cells := 0, slots := 0, locals := 70 } : Room) (va_Pc [.ref o, .int a1] (prG D kI (clD o aw ar kI) sz u)) (va_Qv (fun (v : sD) => v = tg.2) (poG D kI (clD o aw ar kI) (va_A (clD o aw ar kI u) sz)) (va_A (clD o aw ar kI u) sz)) 0 0 (va_A (clD o aw ar kI u) sz) := by
  refine mOfW (cc := cX2_jump) (maxL := 5) (ret := none) (by decide) rfl ?_
  intro p e s m args below meth c s₁ Q R hQ hR B hml hv
  obtain ⟨rfl, hsz, hP, hK, hD0⟩ := hv
  have hx := B.exec
  have hb := B.bytes
  have hr := B.returns
  have hts := atoms_spec (ws := Cond.code yX2_jump cX2_jump 5 none :: wAll) B.pre
  have hw : ∀ {w : Cond}, w ∈ wAll → w.before _ s = true := fun {w} h => hts w (List.mem_cons_of_mem _ h)
  have hown : s.vm.findClass RX2 = some m.cls := findClass_of_methodNamed B.named
  have hlocks := B.notSynchronized
  have hRf : 3 ≤ R.frames := by rw [hR]; exact Nat.le_refl _
  have hRl : 70 ≤ R.locals := by rw [hR]; exact Nat.le_refl _
  subst hsz
  have hD := hD0.self (sz := s.heap.size)
  generalize hAe : va_A (clD o aw ar kI u) s.heap.size = A at hD  hQ
  have hA : ∀ q : Nat, s.heap.size ≤ q → A q := fun q h => by rw [← hAe]; exact Or.inr h
  have hl := lv_entry ([.ref o, .int a1]) (n := 5) (Nat.le_of_ble_eq_true rfl)
  rw [lg_entry_eq]
  generalize (lg_sl ([.ref o, .int a1]) ++ List.replicate (5 - (lg_sl ([.ref o, .int a1])).length) Slot.unset).toArray = ls at hl ⊢
  have hl : lv_has ls 5 [(0, .ref o), (1, .int a1)] := hl
  have hin0 : ∀ w ∈ u_ws RX2 TX2 7, w ∈ (Cond.code yX2_jump cX2_jump 5 none :: wAll) := fun w h => List.mem_cons_of_mem _ (w_flX2 w h)
  unfold fnD_jump at ht
  obtain ⟨H, hHe⟩ : ∃ H : Heap, H = s.heap := ⟨_, rfl⟩
  have hP : va_P D vwCl (clD o aw ar kI u) H := by rw [hHe]; exact hP
  have hS : va_S A s.heap H [] := by rw [hHe]; exact va_S.rf
  rw [← hHe]
  refine lv_iload_n hx hb dX2_jump_0 rfl (lv_at hl 1 rfl) ?_
  refine lv_iconst (v := (3 : Int32)) hx hb dX2_jump_1 (by decide) ?_
  refine lv_ishr hx hb dX2_jump_2 ?_
  refine lv_bipush (v := (7 : Int32)) hx hb dX2_jump_3 (by decide) ?_
  refine lv_iand hx hb dX2_jump_5 ?_
  refine lv_if_ne (tgt := 15) hx hb dX2_jump_6 (by decide) (fun g1 => ?_) (fun g1 => ?_)
  · have ht := (if_neg g1).symm.trans ht
    refine lv_aload_n hx hb dX2_jump_15 rfl (lv_at hl 0 rfl) ?_
    refine lv_iload_n hx hb dX2_jump_16 rfl (lv_at hl 1 rfl) ?_
    refine lv_bipush (v := (63 : Int32)) hx hb dX2_jump_17 (by decide) ?_
    refine lv_iand hx hb dX2_jump_19 ?_
    refine lv_iconst (v := (0 : Int32)) hx hb dX2_jump_20 (by decide) ?_
    obtain ⟨r2, h3, ht⟩ := ob_some ht
    refine kG_v (cl := clD o aw ar kI) (u := u) (va_runV (As := [.int (a1 &&& (63 : Int32)), .int (0 : Int32)]) (rest := []) ⟨hx, hb, hml, hown, hts⟩ (ctD_find l D kI o aw ar H.size u (a1 &&& (63 : Int32)) (0 : Int32) r2 h3) (cwV 2 hts (gV w_m_X2_54 w_im_yX2_find w_sel_yX2_find w_init_MicroMillModel w_co_yX2_find) rfl rfl rfl (by decide +kernel) ⟨Nat.le_trans (Nat.le_of_ble_eq_true rfl) hRf, Nat.le_trans (Nat.le_of_ble_eq_true rfl) hRl⟩) (preG (cl := clD o aw ar kI) (u := u) (N := 7) (ci := 2) hK hP (hD.weaken (fun _ _ _ _ => trivial)) rfl rfl _) rfl rfl hl.1 rfl (lv_room (Nat.le_of_ble_eq_true rfl)) dX2_jump_21 ⟨Nat.zero_le _, Nat.zero_le _⟩) hD hS hA (fun H locs hP hD hS => ?_)
    refine lv_aload_n hx hb dX2_jump_24 rfl (lv_at hl 0 rfl) ?_
    refine va_get (D := D) (ci := 2) (v := .int r2.2.2.2.2.1) (C := RX2) (T := TX2) (N := 7) hx hb hts hin0 hown hK hP 0 rfl rfl 3 (by decide) (hw w_f_X2_25) (fun _ h9 => h9) rfl dX2_jump_25 ?_
    refine lv_if_le (tgt := 32) hx hb dX2_jump_28 (by decide) (fun g4 => ?_) (fun g4 => ?_)
    · have ht := (if_pos g4).symm.trans ht
      refine lv_aload_n hx hb dX2_jump_32 rfl (lv_at hl 0 rfl) ?_
      refine va_get (D := D) (ci := 2) (v := .int r2.2.2.2.2.2.2.2) (C := RX2) (T := TX2) (N := 7) hx hb hts hin0 hown hK hP 0 rfl rfl 6 (by decide) (hw w_f_X2_36) (fun _ h9 => h9) rfl dX2_jump_33 ?_
      refine lv_istore_n (lv' := [(2, .int r2.2.2.2.2.2.2.2), (0, .ref o), (1, .int a1)]) hx hb dX2_jump_36 rfl hl (by decide) rfl (fun ls hl => ?_)
      refine lv_iload_n hx hb dX2_jump_37 rfl (lv_at hl 2 rfl) ?_
      refine lv_bipush (v := (6 : Int32)) hx hb dX2_jump_38 (by decide) ?_
      refine lv_ishr hx hb dX2_jump_40 ?_
      refine lv_iconst (v := (1 : Int32)) hx hb dX2_jump_41 (by decide) ?_
      refine lv_icmp_ne (tgt := 64) hx hb dX2_jump_42 (by decide) (fun g5 => ?_) (fun g5 => ?_)
      · have ht := (if_neg g5).symm.trans ht
        refine lv_iload_n hx hb dX2_jump_64 rfl (lv_at hl 2 rfl) ?_
        refine lv_bipush (v := (6 : Int32)) hx hb dX2_jump_65 (by decide) ?_
        refine lv_ishr hx hb dX2_jump_67 ?_
        refine lv_bipush (v := (7 : Int32)) hx hb dX2_jump_68 (by decide) ?_
        refine lv_iand hx hb dX2_jump_70 ?_
        refine lv_istore_n (lv' := [(3, .int ((a1 >>> ((6 : Int32) &&& 31)) &&& (7 : Int32))), (2, .int r2.2.2.2.2.2.2.2), (0, .ref o), (1, .int a1)]) hx hb dX2_jump_71 rfl hl (by decide) rfl (fun ls hl => ?_)
        refine lv_aload_n hx hb dX2_jump_72 rfl (lv_at hl 2 rfl) ?_
        refine lv_bipush (v := (6 : Int32)) hx hb dX2_jump_73 (by decide) ?_
        refine lv_bipush (v := (-2 : Int32)) hx hb dX2_jump_75 (by decide) ?_
        obtain ⟨r6, h7, ht⟩ := ob_some ht
        refine kG_v (cl := clD o aw ar kI) (u := r2.2) (va_runV (As := [.int (6 : Int32), .int (-2 : Int32)]) (rest := []) ⟨hx, hb, hml, hown, hts⟩ (ctD_add l D kI o aw ar H.size r2.2 (6 : Int32) (-2 : Int32) r6 h7) (cwV 2 hts (gV w_m_X2_28 w_im_yX2_add w_sel_yX2_add w_init_MicroMillModel w_co_yX2_add) rfl rfl rfl (by decide +kernel) ⟨Nat.le_trans (Nat.le_of_ble_eq_true rfl) hRf, Nat.le_trans (Nat.le_of_ble_eq_true rfl) hRl⟩) (preG (cl := clD o aw ar kI) (u := r2.2) (N := 7) (ci := 2) hK hP (hD.weaken (fun _ _ _ _ => trivial)) rfl rfl _) rfl rfl hl.1 rfl (lv_room (Nat.le_of_ble_eq_true rfl)) dX2_jump_77 ⟨Nat.zero_le _, Nat.zero_le _⟩) hD hS hA (fun H locs hP hD hS => ?_)
        refine lv_aload_n hx hb dX2_jump_80 rfl (lv_at hl 2 rfl) ?_
        refine lv_aload_n hx hb dX2_jump_81 rfl (lv_at hl 2 rfl) ?_
        refine va_get (D := D) (ci := 2) (v := .ref ar) (C := RX2) (T := TX2) (N := 7) hx hb hts hin0 hown hK hP 0 rfl rfl 1 (by decide) (hw w_f_X2_13) (fun _ h9 => h9) rfl dX2_jump_82 ?_
        refine lv_bipush (v := (6 : Int32)) hx hb dX2_jump_85 (by decide) ?_
        obtain ⟨b8, ht⟩ := oi_some ht
        refine va_iald hx hb hK hP 2 0 rfl rfl (ixk_in b8) dX2_jump_87 ?_
        obtain ⟨r9, h10, ht⟩ := ob_some ht
        refine kG_i (cl := clD o aw ar kI) (u := r6.2) (va_runV (As := [.int (r6.2.2.1 (6 : Int32).toNatClampNeg)]) (rest := []) ⟨hx, hb, hml, hown, hts⟩ (ctD_word l D kI o aw ar H.size r6.2 (r6.2.2.1 (6 : Int32).toNatClampNeg) r9 h10) (cwV 1 hts (gV w_m_X2_32 w_im_yX2_word w_sel_yX2_word w_init_MicroMillModel w_co_yX2_word) rfl rfl rfl (by decide +kernel) ⟨Nat.le_trans (Nat.le_of_ble_eq_true rfl) hRf, Nat.le_trans (Nat.le_of_ble_eq_true rfl) hRl⟩) (preG (cl := clD o aw ar kI) (u := r6.2) (N := 7) (ci := 2) hK hP (hD.weaken (fun _ _ _ _ => trivial)) rfl rfl _) rfl rfl hl.1 rfl (lv_room (Nat.le_of_ble_eq_true rfl)) dX2_jump_88 ⟨Nat.zero_le _, Nat.zero_le _⟩) hD hS hA (fun H locs hP hD hS => ?_)
        refine lv_istore (lv' := [(4, .int r9.1), (3, .int ((a1 >>> ((6 : Int32) &&& 31)) &&& (7 : Int32))), (2, .int r2.2.2.2.2.2.2.2), (0, .ref o), (1, .int a1)]) hx hb dX2_jump_91 hl (by decide) rfl (fun ls hl => ?_)
        refine lv_aload_n hx hb dX2_jump_93 rfl (lv_at hl 3 rfl) ?_
        refine va_get (D := D) (ci := 2) (v := .int r9.2.2.2.2.1) (C := RX2) (T := TX2) (N := 7) hx hb hts hin0 hown hK hP 0 rfl rfl 3 (by decide) (hw w_f_X2_25) (fun _ h9 => h9) rfl dX2_jump_94 ?_
        refine lv_if_le (tgt := 101) hx hb dX2_jump_97 (by decide) (fun g11 => ?_) (fun g11 => ?_)
        · have ht := (if_pos g11).symm.trans ht
          refine lv_aload_n hx hb dX2_jump_101 rfl (lv_at hl 3 rfl) ?_
          refine va_get (D := D) (ci := 2) (v := .ref aw) (C := RX2) (T := TX2) (N := 7) hx hb hts hin0 hown hK hP 0 rfl rfl 0 (by decide) (hw w_f_X2_7) (fun _ h9 => h9) rfl dX2_jump_102 ?_
          refine lv_aload_n hx hb dX2_jump_105 rfl (lv_at hl 3 rfl) ?_
          refine va_get (D := D) (ci := 2) (v := .ref ar) (C := RX2) (T := TX2) (N := 7) hx hb hts hin0 hown hK hP 0 rfl rfl 1 (by decide) (hw w_f_X2_13) (fun _ h9 => h9) rfl dX2_jump_106 ?_
          refine lv_bipush (v := (6 : Int32)) hx hb dX2_jump_109 (by decide) ?_
          obtain ⟨b12, ht⟩ := oi_some ht
          refine va_iald hx hb hK hP 2 0 rfl rfl (ixk_in b12) dX2_jump_111 ?_
          refine lv_iconst (v := (2 : Int32)) hx hb dX2_jump_112 (by decide) ?_
          refine lv_idiv hx hb dX2_jump_113 (by decide) ?_
          refine lv_aload_n hx hb dX2_jump_114 rfl (lv_at hl 3 rfl) ?_
          refine va_get (D := D) (ci := 2) (v := .ref ar) (C := RX2) (T := TX2) (N := 7) hx hb hts hin0 hown hK hP 0 rfl rfl 1 (by decide) (hw w_f_X2_13) (fun _ h9 => h9) rfl dX2_jump_115 ?_
          refine lv_iload_n hx hb dX2_jump_118 rfl (lv_at hl 1 rfl) ?_
          obtain ⟨b13, ht⟩ := oi_some ht
          refine va_iald hx hb hK hP 2 0 rfl rfl (ixk_in b13) dX2_jump_119 ?_
          obtain ⟨b14, ht⟩ := oi_some ht
          refine va_iast hx hb hK hP hD hS 1 0 rfl rfl (ixk_in b14) dX2_jump_120 (fun H locs hP hD hS => ?_)
          have hP : va_P D vwCl (clD o aw ar kI ((upd r9.2.1 ((r9.2.2.1 (6 : Int32).toNatClampNeg) / (2 : Int32)).toNatClampNeg (r9.2.2.1 ((a1 >>> ((6 : Int32) &&& 31)) &&& (7 : Int32)).toNatClampNeg)), r9.2.2.1, r9.2.2.2.1, r9.2.2.2.2.1, r9.2.2.2.2.2.1, r9.2.2.2.2.2.2.1, r9.2.2.2.2.2.2.2)) H := hP
          have hD : va_D A (clD o aw ar kI ((upd r9.2.1 ((r9.2.2.1 (6 : Int32).toNatClampNeg) / (2 : Int32)).toNatClampNeg (r9.2.2.1 ((a1 >>> ((6 : Int32) &&& 31)) &&& (7 : Int32)).toNatClampNeg)), r9.2.2.1, r9.2.2.2.1, r9.2.2.2.2.1, r9.2.2.2.2.2.1, r9.2.2.2.2.2.2.1, r9.2.2.2.2.2.2.2)) := hD
          refine lv_aload_n hx hb dX2_jump_121 rfl (lv_at hl 3 rfl) ?_
          refine va_get (D := D) (ci := 2) (v := .ref ar) (C := RX2) (T := TX2) (N := 7) hx hb hts hin0 hown hK hP 0 rfl rfl 1 (by decide) (hw w_f_X2_13) (fun _ h9 => h9) rfl dX2_jump_122 ?_
          refine lv_iload_n hx hb dX2_jump_125 rfl (lv_at hl 1 rfl) ?_
          refine lv_aload_n hx hb dX2_jump_126 rfl (lv_at hl 3 rfl) ?_
          refine va_get (D := D) (ci := 2) (v := .ref ar) (C := RX2) (T := TX2) (N := 7) hx hb hts hin0 hown hK hP 0 rfl rfl 1 (by decide) (hw w_f_X2_13) (fun _ h9 => h9) rfl dX2_jump_127 ?_
          refine lv_bipush (v := (7 : Int32)) hx hb dX2_jump_130 (by decide) ?_
          obtain ⟨b15, ht⟩ := oi_some ht
          refine va_iald hx hb hK hP 2 0 rfl rfl (ixk_in b15) dX2_jump_132 ?_
          obtain ⟨b16, ht⟩ := oi_some ht
          refine va_iast hx hb hK hP hD hS 2 0 rfl rfl (ixk_in b16) dX2_jump_133 (fun H locs hP hD hS => ?_)
          have hP : va_P D vwCl (clD o aw ar kI ((upd r9.2.1 ((r9.2.2.1 (6 : Int32).toNatClampNeg) / (2 : Int32)).toNatClampNeg (r9.2.2.1 ((a1 >>> ((6 : Int32) &&& 31)) &&& (7 : Int32)).toNatClampNeg)), (upd r9.2.2.1 ((a1 >>> ((6 : Int32) &&& 31)) &&& (7 : Int32)).toNatClampNeg (r9.2.2.1 (7 : Int32).toNatClampNeg)), r9.2.2.2.1, r9.2.2.2.2.1, r9.2.2.2.2.2.1, r9.2.2.2.2.2.2.1, r9.2.2.2.2.2.2.2)) H := hP
          have hD : va_D A (clD o aw ar kI ((upd r9.2.1 ((r9.2.2.1 (6 : Int32).toNatClampNeg) / (2 : Int32)).toNatClampNeg (r9.2.2.1 ((a1 >>> ((6 : Int32) &&& 31)) &&& (7 : Int32)).toNatClampNeg)), (upd r9.2.2.1 ((a1 >>> ((6 : Int32) &&& 31)) &&& (7 : Int32)).toNatClampNeg (r9.2.2.1 (7 : Int32).toNatClampNeg)), r9.2.2.2.1, r9.2.2.2.2.1, r9.2.2.2.2.2.1, r9.2.2.2.2.2.2.1, r9.2.2.2.2.2.2.2)) := hD
          refine lv_aload_n hx hb dX2_jump_134 rfl (lv_at hl 3 rfl) ?_
          refine va_get (D := D) (ci := 2) (v := .ref ar) (C := RX2) (T := TX2) (N := 7) hx hb hts hin0 hown hK hP 0 rfl rfl 1 (by decide) (hw w_f_X2_13) (fun _ h9 => h9) rfl dX2_jump_135 ?_
          refine lv_bipush (v := (7 : Int32)) hx hb dX2_jump_138 (by decide) ?_
          refine lv_iload_n hx hb dX2_jump_140 rfl (lv_at hl 2 rfl) ?_
          obtain ⟨b17, ht⟩ := oi_some ht
          refine va_iast hx hb hK hP hD hS 2 0 rfl rfl (ixk_in b17) dX2_jump_141 (fun H locs hP hD hS => ?_)
          have hP : va_P D vwCl (clD o aw ar kI ((upd r9.2.1 ((r9.2.2.1 (6 : Int32).toNatClampNeg) / (2 : Int32)).toNatClampNeg (r9.2.2.1 ((a1 >>> ((6 : Int32) &&& 31)) &&& (7 : Int32)).toNatClampNeg)), (upd (upd r9.2.2.1 ((a1 >>> ((6 : Int32) &&& 31)) &&& (7 : Int32)).toNatClampNeg (r9.2.2.1 (7 : Int32).toNatClampNeg)) (7 : Int32).toNatClampNeg r2.2.2.2.2.2.2.2), r9.2.2.2.1, r9.2.2.2.2.1, r9.2.2.2.2.2.1, r9.2.2.2.2.2.2.1, r9.2.2.2.2.2.2.2)) H := hP
          have hD : va_D A (clD o aw ar kI ((upd r9.2.1 ((r9.2.2.1 (6 : Int32).toNatClampNeg) / (2 : Int32)).toNatClampNeg (r9.2.2.1 ((a1 >>> ((6 : Int32) &&& 31)) &&& (7 : Int32)).toNatClampNeg)), (upd (upd r9.2.2.1 ((a1 >>> ((6 : Int32) &&& 31)) &&& (7 : Int32)).toNatClampNeg (r9.2.2.1 (7 : Int32).toNatClampNeg)) (7 : Int32).toNatClampNeg r2.2.2.2.2.2.2.2), r9.2.2.2.1, r9.2.2.2.2.1, r9.2.2.2.2.2.1, r9.2.2.2.2.2.2.1, r9.2.2.2.2.2.2.2)) := hD
          refine lv_aload_n hx hb dX2_jump_142 rfl (lv_at hl 3 rfl) ?_
          refine lv_dup hx hb dX2_jump_143 rfl ?_
          refine va_get (D := D) (ci := 2) (v := .int r9.2.2.2.2.2.2.1) (C := RX2) (T := TX2) (N := 7) hx hb hts hin0 hown hK hP 0 rfl rfl 5 (by decide) (hw w_f_X2_39) (fun _ h9 => h9) rfl dX2_jump_144 ?_
          refine lv_bipush (v := (6 : Int32)) hx hb dX2_jump_147 (by decide) ?_
          refine lv_iadd hx hb dX2_jump_149 ?_
          refine va_put (D := D) (ci := 2) (v := .int (r9.2.2.2.2.2.2.1 + (6 : Int32))) (ty := .int) (C := RX2) (T := TX2) (N := 7) hx hb hts hin0 tyX2 tyX2_ok nmX2 hown hK hP hD hS 0 rfl rfl 5 (by decide) (hw w_f_X2_39) (fun _ h9 => h9) rfl (by decide +kernel) rfl rfl (Nat.le_of_ble_eq_true rfl) dX2_jump_150 (fun H locs hP hD hS => ?_)
          have hP : va_P D vwCl (clD o aw ar kI ((upd r9.2.1 ((r9.2.2.1 (6 : Int32).toNatClampNeg) / (2 : Int32)).toNatClampNeg (r9.2.2.1 ((a1 >>> ((6 : Int32) &&& 31)) &&& (7 : Int32)).toNatClampNeg)), (upd (upd r9.2.2.1 ((a1 >>> ((6 : Int32) &&& 31)) &&& (7 : Int32)).toNatClampNeg (r9.2.2.1 (7 : Int32).toNatClampNeg)) (7 : Int32).toNatClampNeg r2.2.2.2.2.2.2.2), r9.2.2.2.1, r9.2.2.2.2.1, r9.2.2.2.2.2.1, (r9.2.2.2.2.2.2.1 + (6 : Int32)), r9.2.2.2.2.2.2.2)) H := hP
          have hD : va_D A (clD o aw ar kI ((upd r9.2.1 ((r9.2.2.1 (6 : Int32).toNatClampNeg) / (2 : Int32)).toNatClampNeg (r9.2.2.1 ((a1 >>> ((6 : Int32) &&& 31)) &&& (7 : Int32)).toNatClampNeg)), (upd (upd r9.2.2.1 ((a1 >>> ((6 : Int32) &&& 31)) &&& (7 : Int32)).toNatClampNeg (r9.2.2.1 (7 : Int32).toNatClampNeg)) (7 : Int32).toNatClampNeg r2.2.2.2.2.2.2.2), r9.2.2.2.1, r9.2.2.2.2.1, r9.2.2.2.2.2.1, (r9.2.2.2.2.2.2.1 + (6 : Int32)), r9.2.2.2.2.2.2.2)) := hD
          have e9 := Option.some.inj ht
          subst hQ
          exact W.vret hx hb hr (fun t ht9 hW => ⟨⟨((upd r9.2.1 ((r9.2.2.1 (6 : Int32).toNatClampNeg) / (2 : Int32)).toNatClampNeg (r9.2.2.1 ((a1 >>> ((6 : Int32) &&& 31)) &&& (7 : Int32)).toNatClampNeg)), (upd (upd r9.2.2.1 ((a1 >>> ((6 : Int32) &&& 31)) &&& (7 : Int32)).toNatClampNeg (r9.2.2.1 (7 : Int32).toNatClampNeg)) (7 : Int32).toNatClampNeg r2.2.2.2.2.2.2.2), r9.2.2.2.1, r9.2.2.2.2.1, r9.2.2.2.2.2.1, (r9.2.2.2.2.2.2.1 + (6 : Int32)), r9.2.2.2.2.2.2.2), rfl, pr2 e9, ⟨by rw [ht9]; exact hP, va_K.moved hW.alike hK, hD⟩⟩, hS.F ht9⟩) hS.2.2 dX2_jump_153
        · have ht := (if_neg g11).symm.trans ht
          have e9 := Option.some.inj ht
          subst hQ
          exact W.vret hx hb hr (fun t ht9 hW => ⟨⟨r9.2, rfl, pr2 e9, ⟨by rw [ht9]; exact hP, va_K.moved hW.alike hK, hD⟩⟩, hS.F ht9⟩) hS.2.2 dX2_jump_100
      · have ht := (if_pos g5).symm.trans ht
        refine lv_aload_n hx hb dX2_jump_45 rfl (lv_at hl 1 rfl) ?_
        refine lv_dup hx hb dX2_jump_46 rfl ?_
        refine va_get (D := D) (ci := 2) (v := .int r2.2.2.2.2.2.2.1) (C := RX2) (T := TX2) (N := 7) hx hb hts hin0 hown hK hP 0 rfl rfl 5 (by decide) (hw w_f_X2_39) (fun _ h9 => h9) rfl dX2_jump_47 ?_
        refine lv_iconst (v := (1 : Int32)) hx hb dX2_jump_50 (by decide) ?_
        refine lv_iadd hx hb dX2_jump_51 ?_
        refine va_put (D := D) (ci := 2) (v := .int (r2.2.2.2.2.2.2.1 + (1 : Int32))) (ty := .int) (C := RX2) (T := TX2) (N := 7) hx hb hts hin0 tyX2 tyX2_ok nmX2 hown hK hP hD hS 0 rfl rfl 5 (by decide) (hw w_f_X2_39) (fun _ h9 => h9) rfl (by decide +kernel) rfl rfl (Nat.le_of_ble_eq_true rfl) dX2_jump_52 (fun H locs hP hD hS => ?_)
        have hP : va_P D vwCl (clD o aw ar kI (r2.2.1, r2.2.2.1, r2.2.2.2.1, r2.2.2.2.2.1, r2.2.2.2.2.2.1, (r2.2.2.2.2.2.2.1 + (1 : Int32)), r2.2.2.2.2.2.2.2)) H := hP
        have hD : va_D A (clD o aw ar kI (r2.2.1, r2.2.2.1, r2.2.2.2.1, r2.2.2.2.2.1, r2.2.2.2.2.2.1, (r2.2.2.2.2.2.2.1 + (1 : Int32)), r2.2.2.2.2.2.2.2)) := hD
        refine lv_aload_n hx hb dX2_jump_55 rfl (lv_at hl 1 rfl) ?_
        refine va_get (D := D) (ci := 2) (v := .ref ar) (C := RX2) (T := TX2) (N := 7) hx hb hts hin0 hown hK hP 0 rfl rfl 1 (by decide) (hw w_f_X2_13) (fun _ h9 => h9) rfl dX2_jump_56 ?_
        refine lv_bipush (v := (7 : Int32)) hx hb dX2_jump_59 (by decide) ?_
        refine lv_iload_n hx hb dX2_jump_61 rfl (lv_at hl 0 rfl) ?_
        obtain ⟨b18, ht⟩ := oi_some ht
        refine va_iast hx hb hK hP hD hS 2 0 rfl rfl (ixk_in b18) dX2_jump_62 (fun H locs hP hD hS => ?_)
        have hP : va_P D vwCl (clD o aw ar kI (r2.2.1, (upd r2.2.2.1 (7 : Int32).toNatClampNeg r2.2.2.2.2.2.2.2), r2.2.2.2.1, r2.2.2.2.2.1, r2.2.2.2.2.2.1, (r2.2.2.2.2.2.2.1 + (1 : Int32)), r2.2.2.2.2.2.2.2)) H := hP
        have hD : va_D A (clD o aw ar kI (r2.2.1, (upd r2.2.2.1 (7 : Int32).toNatClampNeg r2.2.2.2.2.2.2.2), r2.2.2.2.1, r2.2.2.2.2.1, r2.2.2.2.2.2.1, (r2.2.2.2.2.2.2.1 + (1 : Int32)), r2.2.2.2.2.2.2.2)) := hD
        have e9 := Option.some.inj ht
        subst hQ
        exact W.vret hx hb hr (fun t ht9 hW => ⟨⟨(r2.2.1, (upd r2.2.2.1 (7 : Int32).toNatClampNeg r2.2.2.2.2.2.2.2), r2.2.2.2.1, r2.2.2.2.2.1, r2.2.2.2.2.2.1, (r2.2.2.2.2.2.2.1 + (1 : Int32)), r2.2.2.2.2.2.2.2), rfl, pr2 e9, ⟨by rw [ht9]; exact hP, va_K.moved hW.alike hK, hD⟩⟩, hS.F ht9⟩) hS.2.2 dX2_jump_63
    · have ht := (if_neg g4).symm.trans ht
      have e9 := Option.some.inj ht
      subst hQ
      exact W.vret hx hb hr (fun t ht9 hW => ⟨⟨r2.2, rfl, pr2 e9, ⟨by rw [ht9]; exact hP, va_K.moved hW.alike hK, hD⟩⟩, hS.F ht9⟩) hS.2.2 dX2_jump_31
  · have ht := (if_pos g1).symm.trans ht
    refine lv_aload_n hx hb dX2_jump_9 rfl (lv_at hl 0 rfl) ?_
    refine lv_iconst (v := (2 : Int32)) hx hb dX2_jump_10 (by decide) ?_
    refine va_put (D := D) (ci := 2) (v := .int (2 : Int32)) (ty := .int) (C := RX2) (T := TX2) (N := 7) hx hb hts hin0 tyX2 tyX2_ok nmX2 hown hK hP hD hS 0 rfl rfl 3 (by decide) (hw w_f_X2_25) (fun _ h9 => h9) rfl (by decide +kernel) rfl rfl (Nat.le_of_ble_eq_true rfl) dX2_jump_11 (fun H locs hP hD hS => ?_)
    have hP : va_P D vwCl (clD o aw ar kI (u.1, u.2.1, u.2.2.1, (2 : Int32), u.2.2.2.2.1, u.2.2.2.2.2.1, u.2.2.2.2.2.2)) H := hP
    have hD : va_D A (clD o aw ar kI (u.1, u.2.1, u.2.2.1, (2 : Int32), u.2.2.2.2.1, u.2.2.2.2.2.1, u.2.2.2.2.2.2)) := hD
    have e9 := Option.some.inj ht
    subst hQ
    exact W.vret hx hb hr (fun t ht9 hW => ⟨⟨(u.1, u.2.1, u.2.2.1, (2 : Int32), u.2.2.2.2.1, u.2.2.2.2.2.1, u.2.2.2.2.2.2), rfl, pr2 e9, ⟨by rw [ht9]; exact hP, va_K.moved hW.alike hK, hD⟩⟩, hS.F ht9⟩) hS.2.2 dX2_jump_14
def fnD_doOther_189 (u : sD) : Option (Unit × sD) := some ((), u)
def fnD_doOther_186 (u : sD) (y0 : Int32) : Option (Unit × sD) := fnD_doOther_189 (u.1, u.2.1, u.2.2.1, y0, u.2.2.2.2.1, u.2.2.2.2.2.1, u.2.2.2.2.2.2)
def fnD_doOther_176 (u : sD) (x1 : Int32) : Option (Unit × sD) := if x1 = 0 then (fnD_doOther_186 u (1 : Int32)) else (fnD_doOther_186 u (2 : Int32))
def fnD_doOther_154 (u : sD) (x1 : Int32) : Option (Unit × sD) := if x1 < (160 : Int32) then (fnD_doOther_176 u x1) else (if (192 : Int32) ≤ x1 then (fnD_doOther_176 u x1) else ((fnD_flag u x1).bind (fun r26 => fnD_doOther_189 r26.2)))
def fnD_doOther_124 (u : sD) (x1 : Int32) : Option (Unit × sD) := (fnD_jump u x1).bind (fun r22 => fnD_doOther_189 r22.2)
def fnD_doOther_85 (u : sD) (x1 : Int32) (x2 : Int32) (x3 : Int32) : Option (Unit × sD) := if x3 = 0 then (if x2 = (3 : Int32) then ((fnD_doOne u x1 (3 : Int32) (0 : Int32)).bind (fun r20 => fnD_doOther_189 r20.2)) else (if x2 = (1 : Int32) then (fnD_doOther_124 u x1) else (if (x2 >>> ((3 : Int32) &&& 31)) = (4 : Int32) then (fnD_doOther_124 u x1) else (if x1 < (128 : Int32) then (fnD_doOther_154 u x1) else (if (136 : Int32) ≤ x1 then (fnD_doOther_154 u x1) else ((fnD_back u x1).bind (fun r18 => fnD_doOther_189 r18.2))))))) else (fnD_doOther_189 (u.1, u.2.1, u.2.2.1, (2 : Int32), u.2.2.2.2.1, u.2.2.2.2.2.1, u.2.2.2.2.2.2))
def fnD_doOther_63 (u : sD) (x1 : Int32) (x2 : Int32) (x3 : Int32) : Option (Unit × sD) := if x2 < (40 : Int32) then (fnD_doOther_85 u x1 x2 x3) else (if (51 : Int32) < x2 then (fnD_doOther_85 u x1 x2 x3) else ((fnD_doOne u x1 x2 x3).bind (fun r10 => fnD_doOther_189 r10.2)))
def fnD_doOther_55 (u : sD) (x1 : Int32) : Option (Unit × sD) := (fnD_branch u x1).bind (fun r6 => fnD_doOther_189 r6.2)
def fnD_doOther_40 (u : sD) (x1 : Int32) (x2 : Int32) (x3 : Int32) (x4 : Int32) : Option (Unit × sD) := if x4 ≤ (127 : Int32) then (fnD_doOther_63 u x1 x2 x3) else (if (136 : Int32) ≤ x4 then (fnD_doOther_63 u x1 x2 x3) else (fnD_doOther_55 u x1))
def fnD_doOther_21 (u : sD) (x1 : Int32) (x2 : Int32) (y0 : Int32) : Option (Unit × sD) := if (x1 >>> ((8 : Int32) &&& 31)) ≤ 0 then (fnD_doOther_40 u x1 x2 y0 (x1 >>> ((8 : Int32) &&& 31))) else (if (x1 >>> ((8 : Int32) &&& 31)) < (8 : Int32) then (fnD_doOther_55 u x1) else (fnD_doOther_40 u x1 x2 y0 (x1 >>> ((8 : Int32) &&& 31))))
def fnD_doOther (u : sD) (a1 : Int32) : Option (Unit × sD) := if a1 ≤ (32767 : Int32) then (fnD_doOther_21 u a1 ((a1 >>> ((6 : Int32) &&& 31)) &&& (511 : Int32)) (0 : Int32)) else (fnD_doOther_21 u a1 ((a1 >>> ((6 : Int32) &&& 31)) &&& (511 : Int32)) (1 : Int32))
set_option maxRecDepth 100000 in
set_option maxHeartbeats 4000000 in
theorem ctD_doOther (l : Launch) (D : va_G) (kI : ClassId) (o aw ar : Nat) (sz : Nat) (u : sD) (a1 : Int32) (tg : Unit × sD) (ht : fnD_doOther u a1 = some tg) : Met l yX2_doOther (Cond.code yX2_doOther cX2_doOther 5 none :: wAll) ({ frames := 4, cells := 0, slots := 0, locals := 96 } : Room) (va_Pc [.ref o, .int a1] (prG D kI (clD o aw ar kI) sz u)) (va_Qv (fun (v : sD) => v = tg.2) (poG D kI (clD o aw ar kI) (va_A (clD o aw ar kI u) sz)) (va_A (clD o aw ar kI u) sz)) 0 0 (va_A (clD o aw ar kI u) sz) := by
  refine mOfW (cc := cX2_doOther) (maxL := 5) (ret := none) (by decide) rfl ?_
  intro p e s m args below meth c s₁ Q R hQ hR B hml hv
  obtain ⟨rfl, hsz, hP, hK, hD0⟩ := hv
  have hx := B.exec
  have hb := B.bytes
  have hr := B.returns
  have hts := atoms_spec (ws := Cond.code yX2_doOther cX2_doOther 5 none :: wAll) B.pre
  have hw : ∀ {w : Cond}, w ∈ wAll → w.before _ s = true := fun {w} h => hts w (List.mem_cons_of_mem _ h)
  have hown : s.vm.findClass RX2 = some m.cls := findClass_of_methodNamed B.named
  have hlocks := B.notSynchronized
  have hRf : 4 ≤ R.frames := by rw [hR]; exact Nat.le_refl _
  have hRl : 96 ≤ R.locals := by rw [hR]; exact Nat.le_refl _
  subst hsz
  have hD := hD0.self (sz := s.heap.size)
  generalize hAe : va_A (clD o aw ar kI u) s.heap.size = A at hD  hQ
  have hA : ∀ q : Nat, s.heap.size ≤ q → A q := fun q h => by rw [← hAe]; exact Or.inr h
  have hl := lv_entry ([.ref o, .int a1]) (n := 5) (Nat.le_of_ble_eq_true rfl)
  rw [lg_entry_eq]
  generalize (lg_sl ([.ref o, .int a1]) ++ List.replicate (5 - (lg_sl ([.ref o, .int a1])).length) Slot.unset).toArray = ls at hl ⊢
  have hl : lv_has ls 5 [(0, .ref o), (1, .int a1)] := hl
  have hin0 : ∀ w ∈ u_ws RX2 TX2 7, w ∈ (Cond.code yX2_doOther cX2_doOther 5 none :: wAll) := fun w h => List.mem_cons_of_mem _ (w_flX2 w h)
  have K189 : ∀ (H : Heap) (locs : List Loc) (ls : Array Slot) (u : sD) , va_P D vwCl (clD o aw ar kI u) H → va_D A (clD o aw ar kI u) → va_S A s.heap H locs → lv_has ls 5 [] → fnD_doOther_189 u  = some tg → W p l e R s m ([.ref o, .int a1] : List Value).toArray below meth c H locs 0 0 Q (F0 m 189 ls []) := by
    intro H locs ls u  hP hD hS hl ht
    unfold fnD_doOther_189 at ht
    have e9 := Option.some.inj ht
    subst hQ
    exact W.vret hx hb hr (fun t ht9 hW => ⟨⟨u, rfl, pr2 e9, ⟨by rw [ht9]; exact hP, va_K.moved hW.alike hK, hD⟩⟩, hS.F ht9⟩) hS.2.2 dX2_doOther_189
  have K186 : ∀ (H : Heap) (locs : List Loc) (ls : Array Slot) (u : sD) (y0 : Int32) , va_P D vwCl (clD o aw ar kI u) H → va_D A (clD o aw ar kI u) → va_S A s.heap H locs → lv_has ls 5 [] → fnD_doOther_186 u y0 = some tg → W p l e R s m ([.ref o, .int a1] : List Value).toArray below meth c H locs 0 0 Q (F0 m 186 ls [.int y0, .ref o]) := by
    intro H locs ls u y0 hP hD hS hl ht
    unfold fnD_doOther_186 at ht
    refine va_put (D := D) (ci := 2) (v := .int y0) (ty := .int) (C := RX2) (T := TX2) (N := 7) hx hb hts hin0 tyX2 tyX2_ok nmX2 hown hK hP hD hS 0 rfl rfl 3 (by decide) (hw w_f_X2_25) (fun _ h9 => h9) rfl (by decide +kernel) rfl rfl (Nat.le_of_ble_eq_true rfl) dX2_doOther_186 (fun H locs hP hD hS => ?_)
    have hP : va_P D vwCl (clD o aw ar kI (u.1, u.2.1, u.2.2.1, y0, u.2.2.2.2.1, u.2.2.2.2.2.1, u.2.2.2.2.2.2)) H := hP
    have hD : va_D A (clD o aw ar kI (u.1, u.2.1, u.2.2.1, y0, u.2.2.2.2.1, u.2.2.2.2.2.1, u.2.2.2.2.2.2)) := hD
    exact K189 _ _ _ (u.1, u.2.1, u.2.2.1, y0, u.2.2.2.2.1, u.2.2.2.2.2.1, u.2.2.2.2.2.2) hP hD hS (lv_sub hl [] rfl) ht
  have K176 : ∀ (H : Heap) (locs : List Loc) (ls : Array Slot) (u : sD) (x1 : Int32) , va_P D vwCl (clD o aw ar kI u) H → va_D A (clD o aw ar kI u) → va_S A s.heap H locs → lv_has ls 5 [(0, .ref o), (1, .int x1)] → fnD_doOther_176 u x1 = some tg → W p l e R s m ([.ref o, .int a1] : List Value).toArray below meth c H locs 0 0 Q (F0 m 176 ls []) := by
    intro H locs ls u x1 hP hD hS hl ht
    unfold fnD_doOther_176 at ht
    refine lv_aload_n hx hb dX2_doOther_176 rfl (lv_at hl 0 rfl) ?_
    refine lv_iload_n hx hb dX2_doOther_177 rfl (lv_at hl 1 rfl) ?_
    refine lv_if_ne (tgt := 185) hx hb dX2_doOther_178 (by decide) (fun g28 => ?_) (fun g28 => ?_)
    · have ht := (if_neg g28).symm.trans ht
      refine lv_iconst (v := (2 : Int32)) hx hb dX2_doOther_185 (by decide) ?_
      exact K186 _ _ _ u (2 : Int32) hP hD hS (lv_sub hl [] rfl) ht
    · have ht := (if_pos g28).symm.trans ht
      refine lv_iconst (v := (1 : Int32)) hx hb dX2_doOther_181 (by decide) ?_
      refine lv_goto (tgt := 186) hx hb dX2_doOther_182 (by decide) ?_
      exact K186 _ _ _ u (1 : Int32) hP hD hS (lv_sub hl [] rfl) ht
  have K154 : ∀ (H : Heap) (locs : List Loc) (ls : Array Slot) (u : sD) (x1 : Int32) , va_P D vwCl (clD o aw ar kI u) H → va_D A (clD o aw ar kI u) → va_S A s.heap H locs → lv_has ls 5 [(0, .ref o), (1, .int x1)] → fnD_doOther_154 u x1 = some tg → W p l e R s m ([.ref o, .int a1] : List Value).toArray below meth c H locs 0 0 Q (F0 m 154 ls []) := by
    intro H locs ls u x1 hP hD hS hl ht
    unfold fnD_doOther_154 at ht
    refine lv_iload_n hx hb dX2_doOther_154 rfl (lv_at hl 1 rfl) ?_
    refine lv_sipush (v := (160 : Int32)) hx hb dX2_doOther_155 (by decide) ?_
    refine lv_icmp_lt (tgt := 176) hx hb dX2_doOther_158 (by decide) (fun g24 => ?_) (fun g24 => ?_)
    · have ht := (if_pos g24).symm.trans ht
      exact K176 _ _ _ u x1 hP hD hS (lv_sub hl [0, 1] rfl) ht
    · have ht := (if_neg g24).symm.trans ht
      refine lv_iload_n hx hb dX2_doOther_161 rfl (lv_at hl 1 rfl) ?_
      refine lv_sipush (v := (192 : Int32)) hx hb dX2_doOther_162 (by decide) ?_
      refine lv_icmp_ge (tgt := 176) hx hb dX2_doOther_165 (by decide) (fun g25 => ?_) (fun g25 => ?_)
      · have ht := (if_pos g25).symm.trans ht
        exact K176 _ _ _ u x1 hP hD hS (lv_sub hl [0, 1] rfl) ht
      · have ht := (if_neg g25).symm.trans ht
        refine lv_aload_n hx hb dX2_doOther_168 rfl (lv_at hl 0 rfl) ?_
        refine lv_iload_n hx hb dX2_doOther_169 rfl (lv_at hl 1 rfl) ?_
        obtain ⟨r26, h27, ht⟩ := ob_some ht
        refine kG_v (cl := clD o aw ar kI) (u := u) (va_runV (As := [.int x1]) (rest := []) ⟨hx, hb, hml, hown, hts⟩ (ctD_flag l D kI o aw ar H.size u x1 r26 h27) (cwV 1 hts (gV w_m_X2_96 w_im_yX2_flag w_sel_yX2_flag w_init_MicroMillModel w_co_yX2_flag) rfl rfl rfl (by decide +kernel) ⟨Nat.le_trans (Nat.le_of_ble_eq_true rfl) hRf, Nat.le_trans (Nat.le_of_ble_eq_true rfl) hRl⟩) (preG (cl := clD o aw ar kI) (u := u) (N := 7) (ci := 2) hK hP (hD.weaken (fun _ _ _ _ => trivial)) rfl rfl _) rfl rfl hl.1 rfl (lv_room (Nat.le_of_ble_eq_true rfl)) dX2_doOther_170 ⟨Nat.zero_le _, Nat.zero_le _⟩) hD hS hA (fun H locs hP hD hS => ?_)
        refine lv_goto (tgt := 189) hx hb dX2_doOther_173 (by decide) ?_
        exact K189 _ _ _ r26.2 hP hD hS (lv_sub hl [] rfl) ht
  have K124 : ∀ (H : Heap) (locs : List Loc) (ls : Array Slot) (u : sD) (x1 : Int32) , va_P D vwCl (clD o aw ar kI u) H → va_D A (clD o aw ar kI u) → va_S A s.heap H locs → lv_has ls 5 [(0, .ref o), (1, .int x1)] → fnD_doOther_124 u x1 = some tg → W p l e R s m ([.ref o, .int a1] : List Value).toArray below meth c H locs 0 0 Q (F0 m 124 ls []) := by
    intro H locs ls u x1 hP hD hS hl ht
    unfold fnD_doOther_124 at ht
    refine lv_aload_n hx hb dX2_doOther_124 rfl (lv_at hl 0 rfl) ?_
    refine lv_iload_n hx hb dX2_doOther_125 rfl (lv_at hl 1 rfl) ?_
    obtain ⟨r22, h23, ht⟩ := ob_some ht
    refine kG_v (cl := clD o aw ar kI) (u := u) (va_runV (As := [.int x1]) (rest := []) ⟨hx, hb, hml, hown, hts⟩ (ctD_jump l D kI o aw ar H.size u x1 r22 h23) (cwV 1 hts (gV w_m_X2_90 w_im_yX2_jump w_sel_yX2_jump w_init_MicroMillModel w_co_yX2_jump) rfl rfl rfl (by decide +kernel) ⟨Nat.le_trans (Nat.le_of_ble_eq_true rfl) hRf, Nat.le_trans (Nat.le_of_ble_eq_true rfl) hRl⟩) (preG (cl := clD o aw ar kI) (u := u) (N := 7) (ci := 2) hK hP (hD.weaken (fun _ _ _ _ => trivial)) rfl rfl _) rfl rfl hl.1 rfl (lv_room (Nat.le_of_ble_eq_true rfl)) dX2_doOther_126 ⟨Nat.zero_le _, Nat.zero_le _⟩) hD hS hA (fun H locs hP hD hS => ?_)
    refine lv_goto (tgt := 189) hx hb dX2_doOther_129 (by decide) ?_
    exact K189 _ _ _ r22.2 hP hD hS (lv_sub hl [] rfl) ht
  have K85 : ∀ (H : Heap) (locs : List Loc) (ls : Array Slot) (u : sD) (x1 : Int32) (x2 : Int32) (x3 : Int32) , va_P D vwCl (clD o aw ar kI u) H → va_D A (clD o aw ar kI u) → va_S A s.heap H locs → lv_has ls 5 [(0, .ref o), (1, .int x1), (2, .int x2), (3, .int x3)] → fnD_doOther_85 u x1 x2 x3 = some tg → W p l e R s m ([.ref o, .int a1] : List Value).toArray below meth c H locs 0 0 Q (F0 m 85 ls []) := by
    intro H locs ls u x1 x2 x3 hP hD hS hl ht
    unfold fnD_doOther_85 at ht
    refine lv_iload_n hx hb dX2_doOther_85 rfl (lv_at hl 3 rfl) ?_
    refine lv_if_eq (tgt := 97) hx hb dX2_doOther_86 (by decide) (fun g12 => ?_) (fun g12 => ?_)
    · have ht := (if_pos g12).symm.trans ht
      refine lv_iload_n hx hb dX2_doOther_97 rfl (lv_at hl 2 rfl) ?_
      refine lv_iconst (v := (3 : Int32)) hx hb dX2_doOther_98 (by decide) ?_
      refine lv_icmp_ne (tgt := 112) hx hb dX2_doOther_99 (by decide) (fun g13 => ?_) (fun g13 => ?_)
      · have ht := (if_neg g13).symm.trans ht
        refine lv_iload_n hx hb dX2_doOther_112 rfl (lv_at hl 2 rfl) ?_
        refine lv_iconst (v := (1 : Int32)) hx hb dX2_doOther_113 (by decide) ?_
        refine lv_icmp_eq (tgt := 124) hx hb dX2_doOther_114 (by decide) (fun g14 => ?_) (fun g14 => ?_)
        · have ht := (if_pos g14).symm.trans ht
          exact K124 _ _ _ u x1 hP hD hS (lv_sub hl [0, 1] rfl) ht
        · have ht := (if_neg g14).symm.trans ht
          refine lv_iload_n hx hb dX2_doOther_117 rfl (lv_at hl 2 rfl) ?_
          refine lv_iconst (v := (3 : Int32)) hx hb dX2_doOther_118 (by decide) ?_
          refine lv_ishr hx hb dX2_doOther_119 ?_
          refine lv_iconst (v := (4 : Int32)) hx hb dX2_doOther_120 (by decide) ?_
          refine lv_icmp_ne (tgt := 132) hx hb dX2_doOther_121 (by decide) (fun g15 => ?_) (fun g15 => ?_)
          · have ht := (if_neg g15).symm.trans ht
            refine lv_iload_n hx hb dX2_doOther_132 rfl (lv_at hl 1 rfl) ?_
            refine lv_sipush (v := (128 : Int32)) hx hb dX2_doOther_133 (by decide) ?_
            refine lv_icmp_lt (tgt := 154) hx hb dX2_doOther_136 (by decide) (fun g16 => ?_) (fun g16 => ?_)
            · have ht := (if_pos g16).symm.trans ht
              exact K154 _ _ _ u x1 hP hD hS (lv_sub hl [0, 1] rfl) ht
            · have ht := (if_neg g16).symm.trans ht
              refine lv_iload_n hx hb dX2_doOther_139 rfl (lv_at hl 1 rfl) ?_
              refine lv_sipush (v := (136 : Int32)) hx hb dX2_doOther_140 (by decide) ?_
              refine lv_icmp_ge (tgt := 154) hx hb dX2_doOther_143 (by decide) (fun g17 => ?_) (fun g17 => ?_)
              · have ht := (if_pos g17).symm.trans ht
                exact K154 _ _ _ u x1 hP hD hS (lv_sub hl [0, 1] rfl) ht
              · have ht := (if_neg g17).symm.trans ht
                refine lv_aload_n hx hb dX2_doOther_146 rfl (lv_at hl 0 rfl) ?_
                refine lv_iload_n hx hb dX2_doOther_147 rfl (lv_at hl 1 rfl) ?_
                obtain ⟨r18, h19, ht⟩ := ob_some ht
                refine kG_v (cl := clD o aw ar kI) (u := u) (va_runV (As := [.int x1]) (rest := []) ⟨hx, hb, hml, hown, hts⟩ (ctD_back l D kI o aw ar H.size u x1 r18 h19) (cwV 1 hts (gV w_m_X2_93 w_im_yX2_back w_sel_yX2_back w_init_MicroMillModel w_co_yX2_back) rfl rfl rfl (by decide +kernel) ⟨Nat.le_trans (Nat.le_of_ble_eq_true rfl) hRf, Nat.le_trans (Nat.le_of_ble_eq_true rfl) hRl⟩) (preG (cl := clD o aw ar kI) (u := u) (N := 7) (ci := 2) hK hP (hD.weaken (fun _ _ _ _ => trivial)) rfl rfl _) rfl rfl hl.1 rfl (lv_room (Nat.le_of_ble_eq_true rfl)) dX2_doOther_148 ⟨Nat.zero_le _, Nat.zero_le _⟩) hD hS hA (fun H locs hP hD hS => ?_)
                refine lv_goto (tgt := 189) hx hb dX2_doOther_151 (by decide) ?_
                exact K189 _ _ _ r18.2 hP hD hS (lv_sub hl [] rfl) ht
          · have ht := (if_pos g15).symm.trans ht
            exact K124 _ _ _ u x1 hP hD hS (lv_sub hl [0, 1] rfl) ht
      · have ht := (if_pos g13).symm.trans ht
        refine lv_aload_n hx hb dX2_doOther_102 rfl (lv_at hl 0 rfl) ?_
        refine lv_iload_n hx hb dX2_doOther_103 rfl (lv_at hl 1 rfl) ?_
        refine lv_iconst (v := (3 : Int32)) hx hb dX2_doOther_104 (by decide) ?_
        refine lv_iconst (v := (0 : Int32)) hx hb dX2_doOther_105 (by decide) ?_
        obtain ⟨r20, h21, ht⟩ := ob_some ht
        refine kG_v (cl := clD o aw ar kI) (u := u) (va_runV (As := [.int x1, .int (3 : Int32), .int (0 : Int32)]) (rest := []) ⟨hx, hb, hml, hown, hts⟩ (ctD_doOne l D kI o aw ar H.size u x1 (3 : Int32) (0 : Int32) r20 h21) (cwV 3 hts (gV w_m_X2_86 w_im_yX2_doOne w_sel_yX2_doOne w_init_MicroMillModel w_co_yX2_doOne) rfl rfl rfl (by decide +kernel) ⟨Nat.le_trans (Nat.le_of_ble_eq_true rfl) hRf, Nat.le_trans (Nat.le_of_ble_eq_true rfl) hRl⟩) (preG (cl := clD o aw ar kI) (u := u) (N := 7) (ci := 2) hK hP (hD.weaken (fun _ _ _ _ => trivial)) rfl rfl _) rfl rfl hl.1 rfl (lv_room (Nat.le_of_ble_eq_true rfl)) dX2_doOther_106 ⟨Nat.zero_le _, Nat.zero_le _⟩) hD hS hA (fun H locs hP hD hS => ?_)
        refine lv_goto (tgt := 189) hx hb dX2_doOther_109 (by decide) ?_
        exact K189 _ _ _ r20.2 hP hD hS (lv_sub hl [] rfl) ht
    · have ht := (if_neg g12).symm.trans ht
      refine lv_aload_n hx hb dX2_doOther_89 rfl (lv_at hl 0 rfl) ?_
      refine lv_iconst (v := (2 : Int32)) hx hb dX2_doOther_90 (by decide) ?_
      refine va_put (D := D) (ci := 2) (v := .int (2 : Int32)) (ty := .int) (C := RX2) (T := TX2) (N := 7) hx hb hts hin0 tyX2 tyX2_ok nmX2 hown hK hP hD hS 0 rfl rfl 3 (by decide) (hw w_f_X2_25) (fun _ h9 => h9) rfl (by decide +kernel) rfl rfl (Nat.le_of_ble_eq_true rfl) dX2_doOther_91 (fun H locs hP hD hS => ?_)
      have hP : va_P D vwCl (clD o aw ar kI (u.1, u.2.1, u.2.2.1, (2 : Int32), u.2.2.2.2.1, u.2.2.2.2.2.1, u.2.2.2.2.2.2)) H := hP
      have hD : va_D A (clD o aw ar kI (u.1, u.2.1, u.2.2.1, (2 : Int32), u.2.2.2.2.1, u.2.2.2.2.2.1, u.2.2.2.2.2.2)) := hD
      refine lv_goto (tgt := 189) hx hb dX2_doOther_94 (by decide) ?_
      exact K189 _ _ _ (u.1, u.2.1, u.2.2.1, (2 : Int32), u.2.2.2.2.1, u.2.2.2.2.2.1, u.2.2.2.2.2.2) hP hD hS (lv_sub hl [] rfl) ht
  have K63 : ∀ (H : Heap) (locs : List Loc) (ls : Array Slot) (u : sD) (x1 : Int32) (x2 : Int32) (x3 : Int32) , va_P D vwCl (clD o aw ar kI u) H → va_D A (clD o aw ar kI u) → va_S A s.heap H locs → lv_has ls 5 [(0, .ref o), (1, .int x1), (2, .int x2), (3, .int x3)] → fnD_doOther_63 u x1 x2 x3 = some tg → W p l e R s m ([.ref o, .int a1] : List Value).toArray below meth c H locs 0 0 Q (F0 m 63 ls []) := by
    intro H locs ls u x1 x2 x3 hP hD hS hl ht
    unfold fnD_doOther_63 at ht
    refine lv_iload_n hx hb dX2_doOther_63 rfl (lv_at hl 2 rfl) ?_
    refine lv_bipush (v := (40 : Int32)) hx hb dX2_doOther_64 (by decide) ?_
    refine lv_icmp_lt (tgt := 85) hx hb dX2_doOther_66 (by decide) (fun g8 => ?_) (fun g8 => ?_)
    · have ht := (if_pos g8).symm.trans ht
      exact K85 _ _ _ u x1 x2 x3 hP hD hS (lv_sub hl [0, 1, 2, 3] rfl) ht
    · have ht := (if_neg g8).symm.trans ht
      refine lv_iload_n hx hb dX2_doOther_69 rfl (lv_at hl 2 rfl) ?_
      refine lv_bipush (v := (51 : Int32)) hx hb dX2_doOther_70 (by decide) ?_
      refine lv_icmp_gt (tgt := 85) hx hb dX2_doOther_72 (by decide) (fun g9 => ?_) (fun g9 => ?_)
      · have ht := (if_pos g9).symm.trans ht
        exact K85 _ _ _ u x1 x2 x3 hP hD hS (lv_sub hl [0, 1, 2, 3] rfl) ht
      · have ht := (if_neg g9).symm.trans ht
        refine lv_aload_n hx hb dX2_doOther_75 rfl (lv_at hl 0 rfl) ?_
        refine lv_iload_n hx hb dX2_doOther_76 rfl (lv_at hl 1 rfl) ?_
        refine lv_iload_n hx hb dX2_doOther_77 rfl (lv_at hl 2 rfl) ?_
        refine lv_iload_n hx hb dX2_doOther_78 rfl (lv_at hl 3 rfl) ?_
        obtain ⟨r10, h11, ht⟩ := ob_some ht
        refine kG_v (cl := clD o aw ar kI) (u := u) (va_runV (As := [.int x1, .int x2, .int x3]) (rest := []) ⟨hx, hb, hml, hown, hts⟩ (ctD_doOne l D kI o aw ar H.size u x1 x2 x3 r10 h11) (cwV 3 hts (gV w_m_X2_86 w_im_yX2_doOne w_sel_yX2_doOne w_init_MicroMillModel w_co_yX2_doOne) rfl rfl rfl (by decide +kernel) ⟨Nat.le_trans (Nat.le_of_ble_eq_true rfl) hRf, Nat.le_trans (Nat.le_of_ble_eq_true rfl) hRl⟩) (preG (cl := clD o aw ar kI) (u := u) (N := 7) (ci := 2) hK hP (hD.weaken (fun _ _ _ _ => trivial)) rfl rfl _) rfl rfl hl.1 rfl (lv_room (Nat.le_of_ble_eq_true rfl)) dX2_doOther_79 ⟨Nat.zero_le _, Nat.zero_le _⟩) hD hS hA (fun H locs hP hD hS => ?_)
        refine lv_goto (tgt := 189) hx hb dX2_doOther_82 (by decide) ?_
        exact K189 _ _ _ r10.2 hP hD hS (lv_sub hl [] rfl) ht
  have K55 : ∀ (H : Heap) (locs : List Loc) (ls : Array Slot) (u : sD) (x1 : Int32) , va_P D vwCl (clD o aw ar kI u) H → va_D A (clD o aw ar kI u) → va_S A s.heap H locs → lv_has ls 5 [(0, .ref o), (1, .int x1)] → fnD_doOther_55 u x1 = some tg → W p l e R s m ([.ref o, .int a1] : List Value).toArray below meth c H locs 0 0 Q (F0 m 55 ls []) := by
    intro H locs ls u x1 hP hD hS hl ht
    unfold fnD_doOther_55 at ht
    refine lv_aload_n hx hb dX2_doOther_55 rfl (lv_at hl 0 rfl) ?_
    refine lv_iload_n hx hb dX2_doOther_56 rfl (lv_at hl 1 rfl) ?_
    obtain ⟨r6, h7, ht⟩ := ob_some ht
    refine kG_v (cl := clD o aw ar kI) (u := u) (va_runV (As := [.int x1]) (rest := []) ⟨hx, hb, hml, hown, hts⟩ (ctD_branch l D kI o aw ar H.size u x1 r6 h7) (cwV 1 hts (gV w_m_X2_82 w_im_yX2_branch w_sel_yX2_branch w_init_MicroMillModel w_co_yX2_branch) rfl rfl rfl (by decide +kernel) ⟨Nat.le_trans (Nat.le_of_ble_eq_true rfl) hRf, Nat.le_trans (Nat.le_of_ble_eq_true rfl) hRl⟩) (preG (cl := clD o aw ar kI) (u := u) (N := 7) (ci := 2) hK hP (hD.weaken (fun _ _ _ _ => trivial)) rfl rfl _) rfl rfl hl.1 rfl (lv_room (Nat.le_of_ble_eq_true rfl)) dX2_doOther_57 ⟨Nat.zero_le _, Nat.zero_le _⟩) hD hS hA (fun H locs hP hD hS => ?_)
    refine lv_goto (tgt := 189) hx hb dX2_doOther_60 (by decide) ?_
    exact K189 _ _ _ r6.2 hP hD hS (lv_sub hl [] rfl) ht
  have K40 : ∀ (H : Heap) (locs : List Loc) (ls : Array Slot) (u : sD) (x1 : Int32) (x2 : Int32) (x3 : Int32) (x4 : Int32) , va_P D vwCl (clD o aw ar kI u) H → va_D A (clD o aw ar kI u) → va_S A s.heap H locs → lv_has ls 5 [(0, .ref o), (1, .int x1), (2, .int x2), (3, .int x3), (4, .int x4)] → fnD_doOther_40 u x1 x2 x3 x4 = some tg → W p l e R s m ([.ref o, .int a1] : List Value).toArray below meth c H locs 0 0 Q (F0 m 40 ls []) := by
    intro H locs ls u x1 x2 x3 x4 hP hD hS hl ht
    unfold fnD_doOther_40 at ht
    refine lv_iload hx hb dX2_doOther_40 (lv_at hl 4 rfl) ?_
    refine lv_bipush (v := (127 : Int32)) hx hb dX2_doOther_42 (by decide) ?_
    refine lv_icmp_le (tgt := 63) hx hb dX2_doOther_44 (by decide) (fun g4 => ?_) (fun g4 => ?_)
    · have ht := (if_pos g4).symm.trans ht
      exact K63 _ _ _ u x1 x2 x3 hP hD hS (lv_sub hl [0, 1, 2, 3] rfl) ht
    · have ht := (if_neg g4).symm.trans ht
      refine lv_iload hx hb dX2_doOther_47 (lv_at hl 4 rfl) ?_
      refine lv_sipush (v := (136 : Int32)) hx hb dX2_doOther_49 (by decide) ?_
      refine lv_icmp_ge (tgt := 63) hx hb dX2_doOther_52 (by decide) (fun g5 => ?_) (fun g5 => ?_)
      · have ht := (if_pos g5).symm.trans ht
        exact K63 _ _ _ u x1 x2 x3 hP hD hS (lv_sub hl [0, 1, 2, 3] rfl) ht
      · have ht := (if_neg g5).symm.trans ht
        exact K55 _ _ _ u x1 hP hD hS (lv_sub hl [0, 1] rfl) ht
  have K21 : ∀ (H : Heap) (locs : List Loc) (ls : Array Slot) (u : sD) (x1 : Int32) (x2 : Int32) (y0 : Int32) , va_P D vwCl (clD o aw ar kI u) H → va_D A (clD o aw ar kI u) → va_S A s.heap H locs → lv_has ls 5 [(0, .ref o), (1, .int x1), (2, .int x2)] → fnD_doOther_21 u x1 x2 y0 = some tg → W p l e R s m ([.ref o, .int a1] : List Value).toArray below meth c H locs 0 0 Q (F0 m 21 ls [.int y0]) := by
    intro H locs ls u x1 x2 y0 hP hD hS hl ht
    unfold fnD_doOther_21 at ht
    refine lv_istore_n (lv' := [(3, .int y0), (0, .ref o), (1, .int x1), (2, .int x2)]) hx hb dX2_doOther_21 rfl hl (by decide) rfl (fun ls hl => ?_)
    refine lv_iload_n hx hb dX2_doOther_22 rfl (lv_at hl 2 rfl) ?_
    refine lv_bipush (v := (8 : Int32)) hx hb dX2_doOther_23 (by decide) ?_
    refine lv_ishr hx hb dX2_doOther_25 ?_
    refine lv_istore (lv' := [(4, .int (x1 >>> ((8 : Int32) &&& 31))), (3, .int y0), (0, .ref o), (1, .int x1), (2, .int x2)]) hx hb dX2_doOther_26 hl (by decide) rfl (fun ls hl => ?_)
    refine lv_iload hx hb dX2_doOther_28 (lv_at hl 0 rfl) ?_
    refine lv_if_le (tgt := 40) hx hb dX2_doOther_30 (by decide) (fun g2 => ?_) (fun g2 => ?_)
    · have ht := (if_pos g2).symm.trans ht
      exact K40 _ _ _ u x1 x2 y0 (x1 >>> ((8 : Int32) &&& 31)) hP hD hS (lv_sub hl [2, 3, 4, 1, 0] rfl) ht
    · have ht := (if_neg g2).symm.trans ht
      refine lv_iload hx hb dX2_doOther_33 (lv_at hl 0 rfl) ?_
      refine lv_bipush (v := (8 : Int32)) hx hb dX2_doOther_35 (by decide) ?_
      refine lv_icmp_lt (tgt := 55) hx hb dX2_doOther_37 (by decide) (fun g3 => ?_) (fun g3 => ?_)
      · have ht := (if_pos g3).symm.trans ht
        exact K55 _ _ _ u x1 hP hD hS (lv_sub hl [2, 3] rfl) ht
      · have ht := (if_neg g3).symm.trans ht
        exact K40 _ _ _ u x1 x2 y0 (x1 >>> ((8 : Int32) &&& 31)) hP hD hS (lv_sub hl [2, 3, 4, 1, 0] rfl) ht
  unfold fnD_doOther at ht
  obtain ⟨H, hHe⟩ : ∃ H : Heap, H = s.heap := ⟨_, rfl⟩
  have hP : va_P D vwCl (clD o aw ar kI u) H := by rw [hHe]; exact hP
  have hS : va_S A s.heap H [] := by rw [hHe]; exact va_S.rf
  rw [← hHe]
  refine lv_iload_n hx hb dX2_doOther_0 rfl (lv_at hl 1 rfl) ?_
  refine lv_bipush (v := (6 : Int32)) hx hb dX2_doOther_1 (by decide) ?_
  refine lv_ishr hx hb dX2_doOther_3 ?_
  refine lv_sipush (v := (511 : Int32)) hx hb dX2_doOther_4 (by decide) ?_
  refine lv_iand hx hb dX2_doOther_7 ?_
  refine lv_istore_n (lv' := [(2, .int ((a1 >>> ((6 : Int32) &&& 31)) &&& (511 : Int32))), (0, .ref o), (1, .int a1)]) hx hb dX2_doOther_8 rfl hl (by decide) rfl (fun ls hl => ?_)
  refine lv_iload_n hx hb dX2_doOther_9 rfl (lv_at hl 2 rfl) ?_
  refine lv_sipush (v := (32767 : Int32)) hx hb dX2_doOther_10 (by decide) ?_
  refine lv_icmp_le (tgt := 20) hx hb dX2_doOther_13 (by decide) (fun g1 => ?_) (fun g1 => ?_)
  · have ht := (if_pos g1).symm.trans ht
    refine lv_iconst (v := (0 : Int32)) hx hb dX2_doOther_20 (by decide) ?_
    exact K21 _ _ _ u a1 ((a1 >>> ((6 : Int32) &&& 31)) &&& (511 : Int32)) (0 : Int32) hP hD hS (lv_sub hl [1, 2, 0] rfl) ht
  · have ht := (if_neg g1).symm.trans ht
    refine lv_iconst (v := (1 : Int32)) hx hb dX2_doOther_16 (by decide) ?_
    refine lv_goto (tgt := 21) hx hb dX2_doOther_17 (by decide) ?_
    exact K21 _ _ _ u a1 ((a1 >>> ((6 : Int32) &&& 31)) &&& (511 : Int32)) (1 : Int32) hP hD hS (lv_sub hl [1, 2, 0] rfl) ht
