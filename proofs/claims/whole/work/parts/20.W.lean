def fnW_allows_314 (u : sW) (y0 : Int32) : Option (Int32 × sW) := if bok y0 then (some (y0, u)) else none
def fnW_allows_296 (u : sW) (y0 : Int32) : Option (Int32 × sW) := if bok y0 then (some (y0, u)) else none
def fnW_allows_283 (u : sW) (y0 : Int32) : Option (Int32 × sW) := if bok y0 then (some (y0, u)) else none
def fnW_allows_278 (u : sW) : Option (Int32 × sW) := fnW_allows_283 u (1 : Int32)
def fnW_allows_263 (u : sW) (y0 : Int32) : Option (Int32 × sW) := if bok y0 then (some (y0, u)) else none
def fnW_allows_262 (u : sW) : Option (Int32 × sW) := fnW_allows_263 u (0 : Int32)
def fnW_allows_238 (u : sW) (y0 : Int32) : Option (Int32 × sW) := if bok y0 then (some (y0, u)) else none
def fnW_allows_225 (u : sW) (y0 : Int32) : Option (Int32 × sW) := if bok y0 then (some (y0, u)) else none
def fnW_allows_220 (u : sW) : Option (Int32 × sW) := fnW_allows_225 u (1 : Int32)
def fnW_allows_201 (u : sW) (y0 : Int32) : Option (Int32 × sW) := if bok y0 then (some (y0, u)) else none
def fnW_allows_200 (u : sW) : Option (Int32 × sW) := fnW_allows_201 u (0 : Int32)
def fnW_allows_177 (u : sW) (y0 : Int32) : Option (Int32 × sW) := if bok y0 then (some (y0, u)) else none
def fnW_allows_160 (u : sW) (y0 : Int32) : Option (Int32 × sW) := if bok y0 then (some (y0, u)) else none
def fnW_allows_138 (u : sW) (y0 : Int32) : Option (Int32 × sW) := if bok y0 then (some (y0, u)) else none
def fnW_allows (u : sW) (a1 : Int32) : Option (Int32 × sW) := if a1 = (1 : Int32) then (some ((1 : Int32), u)) else (if a1 = (2 : Int32) then (if u.2.1 = 0 then (fnW_allows_138 u (1 : Int32)) else (fnW_allows_138 u (0 : Int32))) else (if a1 = (3 : Int32) then (if bok u.2.1 then (some (u.2.1, u)) else none) else (if a1 = (4 : Int32) then (if u.1 = u.2.2.1 then (fnW_allows_160 u (1 : Int32)) else (fnW_allows_160 u (0 : Int32))) else (if a1 = (5 : Int32) then (if u.1 = u.2.2.1 then (fnW_allows_177 u (0 : Int32)) else (fnW_allows_177 u (1 : Int32))) else (if a1 = (6 : Int32) then (if u.2.1 = 0 then (if u.1 = u.2.2.1 then (fnW_allows_201 u (1 : Int32)) else (fnW_allows_200 u)) else (fnW_allows_200 u)) else (if a1 = (7 : Int32) then (if u.2.1 = 0 then (if u.1 = u.2.2.1 then (fnW_allows_225 u (0 : Int32)) else (fnW_allows_220 u)) else (fnW_allows_220 u)) else (if a1 = (128 : Int32) then (if u.1 = 0 then (fnW_allows_238 u (1 : Int32)) else (fnW_allows_238 u (0 : Int32))) else (if a1 = (129 : Int32) then (if bok u.1 then (some (u.1, u)) else none) else (if a1 = (130 : Int32) then (if u.2.2.2.1 = 0 then (if u.2.1 = 0 then (fnW_allows_263 u (1 : Int32)) else (fnW_allows_262 u)) else (fnW_allows_262 u)) else (if a1 = (131 : Int32) then (if u.2.2.2.1 = 0 then (if u.2.1 = 0 then (fnW_allows_283 u (0 : Int32)) else (fnW_allows_278 u)) else (fnW_allows_278 u)) else (if a1 = (132 : Int32) then (if u.2.2.1 = 0 then (fnW_allows_296 u (1 : Int32)) else (fnW_allows_296 u (0 : Int32))) else (if a1 = (133 : Int32) then (if bok u.2.2.1 then (some (u.2.2.1, u)) else none) else (if a1 = (134 : Int32) then (if u.2.2.2.1 = 0 then (fnW_allows_314 u (1 : Int32)) else (fnW_allows_314 u (0 : Int32))) else (if bok u.2.2.2.1 then (some (u.2.2.2.1, u)) else none))))))))))))))
set_option maxRecDepth 100000 in
set_option maxHeartbeats 4000000 in
theorem ctW_allows (l : Launch) (D : va_G) (kI : ClassId) (o : Nat) (sz : Nat) (u : sW) (a1 : Int32) (tg : Int32 × sW) (ht : fnW_allows u a1 = some tg) : Met l yX0_allows (Cond.code yX0_allows cX0_allows 2 (some .boolean) :: wAll) ({ frames := 0, cells := 0, slots := 0, locals := 0 } : Room) (va_Pc [.ref o, .int a1] (prG D kI (clW o) sz u)) (va_Qi (fun (x : Int32) (v : sW) => x = tg.1 ∧ v = tg.2) (poG D kI (clW o) (va_A (clW o u) sz)) (va_A (clW o u) sz)) 0 0 (va_A (clW o u) sz) := by
  refine mOfW (cc := cX0_allows) (maxL := 2) (ret := (some .boolean)) (by decide) rfl ?_
  intro p e s m args below meth c s₁ Q R hQ hR B hml hv
  obtain ⟨rfl, hsz, hP, hK, hD0⟩ := hv
  have hx := B.exec
  have hb := B.bytes
  have hr := B.returns
  have hts := atoms_spec (ws := Cond.code yX0_allows cX0_allows 2 (some .boolean) :: wAll) B.pre
  have hw : ∀ {w : Cond}, w ∈ wAll → w.before _ s = true := fun {w} h => hts w (List.mem_cons_of_mem _ h)
  have hown : s.vm.findClass RX0 = some m.cls := findClass_of_methodNamed B.named
  have hlocks := B.notSynchronized
  have hRf : 0 ≤ R.frames := by rw [hR]; exact Nat.le_refl _
  have hRl : 0 ≤ R.locals := by rw [hR]; exact Nat.le_refl _
  subst hsz
  have hD := hD0.self (sz := s.heap.size)
  generalize hAe : va_A (clW o u) s.heap.size = A at hD  hQ
  have hA : ∀ q : Nat, s.heap.size ≤ q → A q := fun q h => by rw [← hAe]; exact Or.inr h
  have hl := lv_entry ([.ref o, .int a1]) (n := 2) (Nat.le_of_ble_eq_true rfl)
  rw [lg_entry_eq]
  generalize (lg_sl ([.ref o, .int a1]) ++ List.replicate (2 - (lg_sl ([.ref o, .int a1])).length) Slot.unset).toArray = ls at hl ⊢
  have hl : lv_has ls 2 [(0, .ref o), (1, .int a1)] := hl
  have hin0 : ∀ w ∈ u_ws RX0 TX0 6, w ∈ (Cond.code yX0_allows cX0_allows 2 (some .boolean) :: wAll) := fun w h => List.mem_cons_of_mem _ (w_flX0 w h)
  have K314 : ∀ (H : Heap) (locs : List Loc) (ls : Array Slot) (u : sW) (y0 : Int32) , va_P D vwCl (clW o u) H → va_D A (clW o u) → va_S A s.heap H locs → lv_has ls 2 [] → fnW_allows_314 u y0 = some tg → W p l e R s m ([.ref o, .int a1] : List Value).toArray below meth c H locs 0 0 Q (F0 m 314 ls [.int y0]) := by
    intro H locs ls u y0 hP hD hS hl ht
    unfold fnW_allows_314 at ht
    obtain ⟨b42, ht⟩ := oi_some ht
    have e9 := Option.some.inj ht
    subst hQ
    exact W.zret (ty := .boolean) (v := y0) hx hb hr (bok_n b42) (fun t ht9 hW => ⟨⟨y0, u, rfl, ⟨pr1 e9, pr2 e9⟩, ⟨by rw [ht9]; exact hP, va_K.moved hW.alike hK, hD⟩⟩, hS.F ht9⟩) hS.2.2 dX0_allows_314
  have K296 : ∀ (H : Heap) (locs : List Loc) (ls : Array Slot) (u : sW) (y0 : Int32) , va_P D vwCl (clW o u) H → va_D A (clW o u) → va_S A s.heap H locs → lv_has ls 2 [] → fnW_allows_296 u y0 = some tg → W p l e R s m ([.ref o, .int a1] : List Value).toArray below meth c H locs 0 0 Q (F0 m 296 ls [.int y0]) := by
    intro H locs ls u y0 hP hD hS hl ht
    unfold fnW_allows_296 at ht
    obtain ⟨b41, ht⟩ := oi_some ht
    have e9 := Option.some.inj ht
    subst hQ
    exact W.zret (ty := .boolean) (v := y0) hx hb hr (bok_n b41) (fun t ht9 hW => ⟨⟨y0, u, rfl, ⟨pr1 e9, pr2 e9⟩, ⟨by rw [ht9]; exact hP, va_K.moved hW.alike hK, hD⟩⟩, hS.F ht9⟩) hS.2.2 dX0_allows_296
  have K283 : ∀ (H : Heap) (locs : List Loc) (ls : Array Slot) (u : sW) (y0 : Int32) , va_P D vwCl (clW o u) H → va_D A (clW o u) → va_S A s.heap H locs → lv_has ls 2 [] → fnW_allows_283 u y0 = some tg → W p l e R s m ([.ref o, .int a1] : List Value).toArray below meth c H locs 0 0 Q (F0 m 283 ls [.int y0]) := by
    intro H locs ls u y0 hP hD hS hl ht
    unfold fnW_allows_283 at ht
    obtain ⟨b40, ht⟩ := oi_some ht
    have e9 := Option.some.inj ht
    subst hQ
    exact W.zret (ty := .boolean) (v := y0) hx hb hr (bok_n b40) (fun t ht9 hW => ⟨⟨y0, u, rfl, ⟨pr1 e9, pr2 e9⟩, ⟨by rw [ht9]; exact hP, va_K.moved hW.alike hK, hD⟩⟩, hS.F ht9⟩) hS.2.2 dX0_allows_283
  have K278 : ∀ (H : Heap) (locs : List Loc) (ls : Array Slot) (u : sW) , va_P D vwCl (clW o u) H → va_D A (clW o u) → va_S A s.heap H locs → lv_has ls 2 [] → fnW_allows_278 u  = some tg → W p l e R s m ([.ref o, .int a1] : List Value).toArray below meth c H locs 0 0 Q (F0 m 278 ls []) := by
    intro H locs ls u  hP hD hS hl ht
    unfold fnW_allows_278 at ht
    refine lv_iconst (v := (1 : Int32)) hx hb dX0_allows_278 (by decide) ?_
    refine lv_goto (tgt := 283) hx hb dX0_allows_279 (by decide) ?_
    exact K283 _ _ _ u (1 : Int32) hP hD hS (lv_sub hl [] rfl) ht
  have K263 : ∀ (H : Heap) (locs : List Loc) (ls : Array Slot) (u : sW) (y0 : Int32) , va_P D vwCl (clW o u) H → va_D A (clW o u) → va_S A s.heap H locs → lv_has ls 2 [] → fnW_allows_263 u y0 = some tg → W p l e R s m ([.ref o, .int a1] : List Value).toArray below meth c H locs 0 0 Q (F0 m 263 ls [.int y0]) := by
    intro H locs ls u y0 hP hD hS hl ht
    unfold fnW_allows_263 at ht
    obtain ⟨b39, ht⟩ := oi_some ht
    have e9 := Option.some.inj ht
    subst hQ
    exact W.zret (ty := .boolean) (v := y0) hx hb hr (bok_n b39) (fun t ht9 hW => ⟨⟨y0, u, rfl, ⟨pr1 e9, pr2 e9⟩, ⟨by rw [ht9]; exact hP, va_K.moved hW.alike hK, hD⟩⟩, hS.F ht9⟩) hS.2.2 dX0_allows_263
  have K262 : ∀ (H : Heap) (locs : List Loc) (ls : Array Slot) (u : sW) , va_P D vwCl (clW o u) H → va_D A (clW o u) → va_S A s.heap H locs → lv_has ls 2 [] → fnW_allows_262 u  = some tg → W p l e R s m ([.ref o, .int a1] : List Value).toArray below meth c H locs 0 0 Q (F0 m 262 ls []) := by
    intro H locs ls u  hP hD hS hl ht
    unfold fnW_allows_262 at ht
    refine lv_iconst (v := (0 : Int32)) hx hb dX0_allows_262 (by decide) ?_
    exact K263 _ _ _ u (0 : Int32) hP hD hS (lv_sub hl [] rfl) ht
  have K238 : ∀ (H : Heap) (locs : List Loc) (ls : Array Slot) (u : sW) (y0 : Int32) , va_P D vwCl (clW o u) H → va_D A (clW o u) → va_S A s.heap H locs → lv_has ls 2 [] → fnW_allows_238 u y0 = some tg → W p l e R s m ([.ref o, .int a1] : List Value).toArray below meth c H locs 0 0 Q (F0 m 238 ls [.int y0]) := by
    intro H locs ls u y0 hP hD hS hl ht
    unfold fnW_allows_238 at ht
    obtain ⟨b38, ht⟩ := oi_some ht
    have e9 := Option.some.inj ht
    subst hQ
    exact W.zret (ty := .boolean) (v := y0) hx hb hr (bok_n b38) (fun t ht9 hW => ⟨⟨y0, u, rfl, ⟨pr1 e9, pr2 e9⟩, ⟨by rw [ht9]; exact hP, va_K.moved hW.alike hK, hD⟩⟩, hS.F ht9⟩) hS.2.2 dX0_allows_238
  have K225 : ∀ (H : Heap) (locs : List Loc) (ls : Array Slot) (u : sW) (y0 : Int32) , va_P D vwCl (clW o u) H → va_D A (clW o u) → va_S A s.heap H locs → lv_has ls 2 [] → fnW_allows_225 u y0 = some tg → W p l e R s m ([.ref o, .int a1] : List Value).toArray below meth c H locs 0 0 Q (F0 m 225 ls [.int y0]) := by
    intro H locs ls u y0 hP hD hS hl ht
    unfold fnW_allows_225 at ht
    obtain ⟨b37, ht⟩ := oi_some ht
    have e9 := Option.some.inj ht
    subst hQ
    exact W.zret (ty := .boolean) (v := y0) hx hb hr (bok_n b37) (fun t ht9 hW => ⟨⟨y0, u, rfl, ⟨pr1 e9, pr2 e9⟩, ⟨by rw [ht9]; exact hP, va_K.moved hW.alike hK, hD⟩⟩, hS.F ht9⟩) hS.2.2 dX0_allows_225
  have K220 : ∀ (H : Heap) (locs : List Loc) (ls : Array Slot) (u : sW) , va_P D vwCl (clW o u) H → va_D A (clW o u) → va_S A s.heap H locs → lv_has ls 2 [] → fnW_allows_220 u  = some tg → W p l e R s m ([.ref o, .int a1] : List Value).toArray below meth c H locs 0 0 Q (F0 m 220 ls []) := by
    intro H locs ls u  hP hD hS hl ht
    unfold fnW_allows_220 at ht
    refine lv_iconst (v := (1 : Int32)) hx hb dX0_allows_220 (by decide) ?_
    refine lv_goto (tgt := 225) hx hb dX0_allows_221 (by decide) ?_
    exact K225 _ _ _ u (1 : Int32) hP hD hS (lv_sub hl [] rfl) ht
  have K201 : ∀ (H : Heap) (locs : List Loc) (ls : Array Slot) (u : sW) (y0 : Int32) , va_P D vwCl (clW o u) H → va_D A (clW o u) → va_S A s.heap H locs → lv_has ls 2 [] → fnW_allows_201 u y0 = some tg → W p l e R s m ([.ref o, .int a1] : List Value).toArray below meth c H locs 0 0 Q (F0 m 201 ls [.int y0]) := by
    intro H locs ls u y0 hP hD hS hl ht
    unfold fnW_allows_201 at ht
    obtain ⟨b36, ht⟩ := oi_some ht
    have e9 := Option.some.inj ht
    subst hQ
    exact W.zret (ty := .boolean) (v := y0) hx hb hr (bok_n b36) (fun t ht9 hW => ⟨⟨y0, u, rfl, ⟨pr1 e9, pr2 e9⟩, ⟨by rw [ht9]; exact hP, va_K.moved hW.alike hK, hD⟩⟩, hS.F ht9⟩) hS.2.2 dX0_allows_201
  have K200 : ∀ (H : Heap) (locs : List Loc) (ls : Array Slot) (u : sW) , va_P D vwCl (clW o u) H → va_D A (clW o u) → va_S A s.heap H locs → lv_has ls 2 [] → fnW_allows_200 u  = some tg → W p l e R s m ([.ref o, .int a1] : List Value).toArray below meth c H locs 0 0 Q (F0 m 200 ls []) := by
    intro H locs ls u  hP hD hS hl ht
    unfold fnW_allows_200 at ht
    refine lv_iconst (v := (0 : Int32)) hx hb dX0_allows_200 (by decide) ?_
    exact K201 _ _ _ u (0 : Int32) hP hD hS (lv_sub hl [] rfl) ht
  have K177 : ∀ (H : Heap) (locs : List Loc) (ls : Array Slot) (u : sW) (y0 : Int32) , va_P D vwCl (clW o u) H → va_D A (clW o u) → va_S A s.heap H locs → lv_has ls 2 [] → fnW_allows_177 u y0 = some tg → W p l e R s m ([.ref o, .int a1] : List Value).toArray below meth c H locs 0 0 Q (F0 m 177 ls [.int y0]) := by
    intro H locs ls u y0 hP hD hS hl ht
    unfold fnW_allows_177 at ht
    obtain ⟨b35, ht⟩ := oi_some ht
    have e9 := Option.some.inj ht
    subst hQ
    exact W.zret (ty := .boolean) (v := y0) hx hb hr (bok_n b35) (fun t ht9 hW => ⟨⟨y0, u, rfl, ⟨pr1 e9, pr2 e9⟩, ⟨by rw [ht9]; exact hP, va_K.moved hW.alike hK, hD⟩⟩, hS.F ht9⟩) hS.2.2 dX0_allows_177
  have K160 : ∀ (H : Heap) (locs : List Loc) (ls : Array Slot) (u : sW) (y0 : Int32) , va_P D vwCl (clW o u) H → va_D A (clW o u) → va_S A s.heap H locs → lv_has ls 2 [] → fnW_allows_160 u y0 = some tg → W p l e R s m ([.ref o, .int a1] : List Value).toArray below meth c H locs 0 0 Q (F0 m 160 ls [.int y0]) := by
    intro H locs ls u y0 hP hD hS hl ht
    unfold fnW_allows_160 at ht
    obtain ⟨b34, ht⟩ := oi_some ht
    have e9 := Option.some.inj ht
    subst hQ
    exact W.zret (ty := .boolean) (v := y0) hx hb hr (bok_n b34) (fun t ht9 hW => ⟨⟨y0, u, rfl, ⟨pr1 e9, pr2 e9⟩, ⟨by rw [ht9]; exact hP, va_K.moved hW.alike hK, hD⟩⟩, hS.F ht9⟩) hS.2.2 dX0_allows_160
  have K138 : ∀ (H : Heap) (locs : List Loc) (ls : Array Slot) (u : sW) (y0 : Int32) , va_P D vwCl (clW o u) H → va_D A (clW o u) → va_S A s.heap H locs → lv_has ls 2 [] → fnW_allows_138 u y0 = some tg → W p l e R s m ([.ref o, .int a1] : List Value).toArray below meth c H locs 0 0 Q (F0 m 138 ls [.int y0]) := by
    intro H locs ls u y0 hP hD hS hl ht
    unfold fnW_allows_138 at ht
    obtain ⟨b33, ht⟩ := oi_some ht
    have e9 := Option.some.inj ht
    subst hQ
    exact W.zret (ty := .boolean) (v := y0) hx hb hr (bok_n b33) (fun t ht9 hW => ⟨⟨y0, u, rfl, ⟨pr1 e9, pr2 e9⟩, ⟨by rw [ht9]; exact hP, va_K.moved hW.alike hK, hD⟩⟩, hS.F ht9⟩) hS.2.2 dX0_allows_138
  unfold fnW_allows at ht
  obtain ⟨H, hHe⟩ : ∃ H : Heap, H = s.heap := ⟨_, rfl⟩
  have hP : va_P D vwCl (clW o u) H := by rw [hHe]; exact hP
  have hS : va_S A s.heap H [] := by rw [hHe]; exact va_S.rf
  rw [← hHe]
  refine lv_iload_n hx hb dX0_allows_0 rfl (lv_at hl 1 rfl) ?_
  by_cases g1 : a1 = (1 : Int32)
  · have ht := (if_pos g1).symm.trans ht
    refine lv_lookup (off := 123) (tgt := 124) hx hb dX0_allows_1 (by decide) (by rw [g1]; rfl) (by decide) ?_
    refine lv_iconst (v := (1 : Int32)) hx hb dX0_allows_124 (by decide) ?_
    have e9 := Option.some.inj ht
    subst hQ
    exact W.zret (ty := .boolean) (v := (1 : Int32)) hx hb hr (by decide) (fun t ht9 hW => ⟨⟨(1 : Int32), u, rfl, ⟨pr1 e9, pr2 e9⟩, ⟨by rw [ht9]; exact hP, va_K.moved hW.alike hK, hD⟩⟩, hS.F ht9⟩) hS.2.2 dX0_allows_125
  · have ht := (if_neg g1).symm.trans ht
    by_cases g2 : a1 = (2 : Int32)
    · have ht := (if_pos g2).symm.trans ht
      refine lv_lookup (off := 125) (tgt := 126) hx hb dX0_allows_1 (by decide) (by rw [g2]; rfl) (by decide) ?_
      refine lv_aload_n hx hb dX0_allows_126 rfl (lv_at hl 0 rfl) ?_
      refine va_get (D := D) (ci := 0) (v := .int u.2.1) (C := RX0) (T := TX0) (N := 6) hx hb hts hin0 hown hK hP 0 rfl rfl 1 (by decide) (hw w_f_X0_15) (fun _ h9 => h9) rfl dX0_allows_127 ?_
      refine lv_if_ne (tgt := 137) hx hb dX0_allows_130 (by decide) (fun g3 => ?_) (fun g3 => ?_)
      · have ht := (if_neg g3).symm.trans ht
        refine lv_iconst (v := (0 : Int32)) hx hb dX0_allows_137 (by decide) ?_
        exact K138 _ _ _ u (0 : Int32) hP hD hS (lv_sub hl [] rfl) ht
      · have ht := (if_pos g3).symm.trans ht
        refine lv_iconst (v := (1 : Int32)) hx hb dX0_allows_133 (by decide) ?_
        refine lv_goto (tgt := 138) hx hb dX0_allows_134 (by decide) ?_
        exact K138 _ _ _ u (1 : Int32) hP hD hS (lv_sub hl [] rfl) ht
    · have ht := (if_neg g2).symm.trans ht
      by_cases g4 : a1 = (3 : Int32)
      · have ht := (if_pos g4).symm.trans ht
        refine lv_lookup (off := 138) (tgt := 139) hx hb dX0_allows_1 (by decide) (by rw [g4]; rfl) (by decide) ?_
        refine lv_aload_n hx hb dX0_allows_139 rfl (lv_at hl 0 rfl) ?_
        refine va_get (D := D) (ci := 0) (v := .int u.2.1) (C := RX0) (T := TX0) (N := 6) hx hb hts hin0 hown hK hP 0 rfl rfl 1 (by decide) (hw w_f_X0_15) (fun _ h9 => h9) rfl dX0_allows_140 ?_
        obtain ⟨b5, ht⟩ := oi_some ht
        have e9 := Option.some.inj ht
        subst hQ
        exact W.zret (ty := .boolean) (v := u.2.1) hx hb hr (bok_n b5) (fun t ht9 hW => ⟨⟨u.2.1, u, rfl, ⟨pr1 e9, pr2 e9⟩, ⟨by rw [ht9]; exact hP, va_K.moved hW.alike hK, hD⟩⟩, hS.F ht9⟩) hS.2.2 dX0_allows_143
      · have ht := (if_neg g4).symm.trans ht
        by_cases g6 : a1 = (4 : Int32)
        · have ht := (if_pos g6).symm.trans ht
          refine lv_lookup (off := 143) (tgt := 144) hx hb dX0_allows_1 (by decide) (by rw [g6]; rfl) (by decide) ?_
          refine lv_aload_n hx hb dX0_allows_144 rfl (lv_at hl 0 rfl) ?_
          refine va_get (D := D) (ci := 0) (v := .int u.1) (C := RX0) (T := TX0) (N := 6) hx hb hts hin0 hown hK hP 0 rfl rfl 0 (by decide) (hw w_f_X0_9) (fun _ h9 => h9) rfl dX0_allows_145 ?_
          refine lv_aload_n hx hb dX0_allows_148 rfl (lv_at hl 0 rfl) ?_
          refine va_get (D := D) (ci := 0) (v := .int u.2.2.1) (C := RX0) (T := TX0) (N := 6) hx hb hts hin0 hown hK hP 0 rfl rfl 2 (by decide) (hw w_f_X0_18) (fun _ h9 => h9) rfl dX0_allows_149 ?_
          refine lv_icmp_ne (tgt := 159) hx hb dX0_allows_152 (by decide) (fun g7 => ?_) (fun g7 => ?_)
          · have ht := (if_neg g7).symm.trans ht
            refine lv_iconst (v := (0 : Int32)) hx hb dX0_allows_159 (by decide) ?_
            exact K160 _ _ _ u (0 : Int32) hP hD hS (lv_sub hl [] rfl) ht
          · have ht := (if_pos g7).symm.trans ht
            refine lv_iconst (v := (1 : Int32)) hx hb dX0_allows_155 (by decide) ?_
            refine lv_goto (tgt := 160) hx hb dX0_allows_156 (by decide) ?_
            exact K160 _ _ _ u (1 : Int32) hP hD hS (lv_sub hl [] rfl) ht
        · have ht := (if_neg g6).symm.trans ht
          by_cases g8 : a1 = (5 : Int32)
          · have ht := (if_pos g8).symm.trans ht
            refine lv_lookup (off := 160) (tgt := 161) hx hb dX0_allows_1 (by decide) (by rw [g8]; rfl) (by decide) ?_
            refine lv_aload_n hx hb dX0_allows_161 rfl (lv_at hl 0 rfl) ?_
            refine va_get (D := D) (ci := 0) (v := .int u.1) (C := RX0) (T := TX0) (N := 6) hx hb hts hin0 hown hK hP 0 rfl rfl 0 (by decide) (hw w_f_X0_9) (fun _ h9 => h9) rfl dX0_allows_162 ?_
            refine lv_aload_n hx hb dX0_allows_165 rfl (lv_at hl 0 rfl) ?_
            refine va_get (D := D) (ci := 0) (v := .int u.2.2.1) (C := RX0) (T := TX0) (N := 6) hx hb hts hin0 hown hK hP 0 rfl rfl 2 (by decide) (hw w_f_X0_18) (fun _ h9 => h9) rfl dX0_allows_166 ?_
            refine lv_icmp_eq (tgt := 176) hx hb dX0_allows_169 (by decide) (fun g9 => ?_) (fun g9 => ?_)
            · have ht := (if_pos g9).symm.trans ht
              refine lv_iconst (v := (0 : Int32)) hx hb dX0_allows_176 (by decide) ?_
              exact K177 _ _ _ u (0 : Int32) hP hD hS (lv_sub hl [] rfl) ht
            · have ht := (if_neg g9).symm.trans ht
              refine lv_iconst (v := (1 : Int32)) hx hb dX0_allows_172 (by decide) ?_
              refine lv_goto (tgt := 177) hx hb dX0_allows_173 (by decide) ?_
              exact K177 _ _ _ u (1 : Int32) hP hD hS (lv_sub hl [] rfl) ht
          · have ht := (if_neg g8).symm.trans ht
            by_cases g10 : a1 = (6 : Int32)
            · have ht := (if_pos g10).symm.trans ht
              refine lv_lookup (off := 177) (tgt := 178) hx hb dX0_allows_1 (by decide) (by rw [g10]; rfl) (by decide) ?_
              refine lv_aload_n hx hb dX0_allows_178 rfl (lv_at hl 0 rfl) ?_
              refine va_get (D := D) (ci := 0) (v := .int u.2.1) (C := RX0) (T := TX0) (N := 6) hx hb hts hin0 hown hK hP 0 rfl rfl 1 (by decide) (hw w_f_X0_15) (fun _ h9 => h9) rfl dX0_allows_179 ?_
              refine lv_if_ne (tgt := 200) hx hb dX0_allows_182 (by decide) (fun g11 => ?_) (fun g11 => ?_)
              · have ht := (if_neg g11).symm.trans ht
                exact K200 _ _ _ u hP hD hS (lv_sub hl [] rfl) ht
              · have ht := (if_pos g11).symm.trans ht
                refine lv_aload_n hx hb dX0_allows_185 rfl (lv_at hl 0 rfl) ?_
                refine va_get (D := D) (ci := 0) (v := .int u.1) (C := RX0) (T := TX0) (N := 6) hx hb hts hin0 hown hK hP 0 rfl rfl 0 (by decide) (hw w_f_X0_9) (fun _ h9 => h9) rfl dX0_allows_186 ?_
                refine lv_aload_n hx hb dX0_allows_189 rfl (lv_at hl 0 rfl) ?_
                refine va_get (D := D) (ci := 0) (v := .int u.2.2.1) (C := RX0) (T := TX0) (N := 6) hx hb hts hin0 hown hK hP 0 rfl rfl 2 (by decide) (hw w_f_X0_18) (fun _ h9 => h9) rfl dX0_allows_190 ?_
                refine lv_icmp_ne (tgt := 200) hx hb dX0_allows_193 (by decide) (fun g12 => ?_) (fun g12 => ?_)
                · have ht := (if_neg g12).symm.trans ht
                  exact K200 _ _ _ u hP hD hS (lv_sub hl [] rfl) ht
                · have ht := (if_pos g12).symm.trans ht
                  refine lv_iconst (v := (1 : Int32)) hx hb dX0_allows_196 (by decide) ?_
                  refine lv_goto (tgt := 201) hx hb dX0_allows_197 (by decide) ?_
                  exact K201 _ _ _ u (1 : Int32) hP hD hS (lv_sub hl [] rfl) ht
            · have ht := (if_neg g10).symm.trans ht
              by_cases g13 : a1 = (7 : Int32)
              · have ht := (if_pos g13).symm.trans ht
                refine lv_lookup (off := 201) (tgt := 202) hx hb dX0_allows_1 (by decide) (by rw [g13]; rfl) (by decide) ?_
                refine lv_aload_n hx hb dX0_allows_202 rfl (lv_at hl 0 rfl) ?_
                refine va_get (D := D) (ci := 0) (v := .int u.2.1) (C := RX0) (T := TX0) (N := 6) hx hb hts hin0 hown hK hP 0 rfl rfl 1 (by decide) (hw w_f_X0_15) (fun _ h9 => h9) rfl dX0_allows_203 ?_
                refine lv_if_ne (tgt := 220) hx hb dX0_allows_206 (by decide) (fun g14 => ?_) (fun g14 => ?_)
                · have ht := (if_neg g14).symm.trans ht
                  exact K220 _ _ _ u hP hD hS (lv_sub hl [] rfl) ht
                · have ht := (if_pos g14).symm.trans ht
                  refine lv_aload_n hx hb dX0_allows_209 rfl (lv_at hl 0 rfl) ?_
                  refine va_get (D := D) (ci := 0) (v := .int u.1) (C := RX0) (T := TX0) (N := 6) hx hb hts hin0 hown hK hP 0 rfl rfl 0 (by decide) (hw w_f_X0_9) (fun _ h9 => h9) rfl dX0_allows_210 ?_
                  refine lv_aload_n hx hb dX0_allows_213 rfl (lv_at hl 0 rfl) ?_
                  refine va_get (D := D) (ci := 0) (v := .int u.2.2.1) (C := RX0) (T := TX0) (N := 6) hx hb hts hin0 hown hK hP 0 rfl rfl 2 (by decide) (hw w_f_X0_18) (fun _ h9 => h9) rfl dX0_allows_214 ?_
                  refine lv_icmp_eq (tgt := 224) hx hb dX0_allows_217 (by decide) (fun g15 => ?_) (fun g15 => ?_)
                  · have ht := (if_pos g15).symm.trans ht
                    refine lv_iconst (v := (0 : Int32)) hx hb dX0_allows_224 (by decide) ?_
                    exact K225 _ _ _ u (0 : Int32) hP hD hS (lv_sub hl [] rfl) ht
                  · have ht := (if_neg g15).symm.trans ht
                    exact K220 _ _ _ u hP hD hS (lv_sub hl [] rfl) ht
              · have ht := (if_neg g13).symm.trans ht
                by_cases g16 : a1 = (128 : Int32)
                · have ht := (if_pos g16).symm.trans ht
                  refine lv_lookup (off := 225) (tgt := 226) hx hb dX0_allows_1 (by decide) (by rw [g16]; rfl) (by decide) ?_
                  refine lv_aload_n hx hb dX0_allows_226 rfl (lv_at hl 0 rfl) ?_
                  refine va_get (D := D) (ci := 0) (v := .int u.1) (C := RX0) (T := TX0) (N := 6) hx hb hts hin0 hown hK hP 0 rfl rfl 0 (by decide) (hw w_f_X0_9) (fun _ h9 => h9) rfl dX0_allows_227 ?_
                  refine lv_if_ne (tgt := 237) hx hb dX0_allows_230 (by decide) (fun g17 => ?_) (fun g17 => ?_)
                  · have ht := (if_neg g17).symm.trans ht
                    refine lv_iconst (v := (0 : Int32)) hx hb dX0_allows_237 (by decide) ?_
                    exact K238 _ _ _ u (0 : Int32) hP hD hS (lv_sub hl [] rfl) ht
                  · have ht := (if_pos g17).symm.trans ht
                    refine lv_iconst (v := (1 : Int32)) hx hb dX0_allows_233 (by decide) ?_
                    refine lv_goto (tgt := 238) hx hb dX0_allows_234 (by decide) ?_
                    exact K238 _ _ _ u (1 : Int32) hP hD hS (lv_sub hl [] rfl) ht
                · have ht := (if_neg g16).symm.trans ht
                  by_cases g18 : a1 = (129 : Int32)
                  · have ht := (if_pos g18).symm.trans ht
                    refine lv_lookup (off := 238) (tgt := 239) hx hb dX0_allows_1 (by decide) (by rw [g18]; rfl) (by decide) ?_
                    refine lv_aload_n hx hb dX0_allows_239 rfl (lv_at hl 0 rfl) ?_
                    refine va_get (D := D) (ci := 0) (v := .int u.1) (C := RX0) (T := TX0) (N := 6) hx hb hts hin0 hown hK hP 0 rfl rfl 0 (by decide) (hw w_f_X0_9) (fun _ h9 => h9) rfl dX0_allows_240 ?_
                    obtain ⟨b19, ht⟩ := oi_some ht
                    have e9 := Option.some.inj ht
                    subst hQ
                    exact W.zret (ty := .boolean) (v := u.1) hx hb hr (bok_n b19) (fun t ht9 hW => ⟨⟨u.1, u, rfl, ⟨pr1 e9, pr2 e9⟩, ⟨by rw [ht9]; exact hP, va_K.moved hW.alike hK, hD⟩⟩, hS.F ht9⟩) hS.2.2 dX0_allows_243
                  · have ht := (if_neg g18).symm.trans ht
                    by_cases g20 : a1 = (130 : Int32)
                    · have ht := (if_pos g20).symm.trans ht
                      refine lv_lookup (off := 243) (tgt := 244) hx hb dX0_allows_1 (by decide) (by rw [g20]; rfl) (by decide) ?_
                      refine lv_aload_n hx hb dX0_allows_244 rfl (lv_at hl 0 rfl) ?_
                      refine va_get (D := D) (ci := 0) (v := .int u.2.2.2.1) (C := RX0) (T := TX0) (N := 6) hx hb hts hin0 hown hK hP 0 rfl rfl 3 (by decide) (hw w_f_X0_21) (fun _ h9 => h9) rfl dX0_allows_245 ?_
                      refine lv_if_ne (tgt := 262) hx hb dX0_allows_248 (by decide) (fun g21 => ?_) (fun g21 => ?_)
                      · have ht := (if_neg g21).symm.trans ht
                        exact K262 _ _ _ u hP hD hS (lv_sub hl [] rfl) ht
                      · have ht := (if_pos g21).symm.trans ht
                        refine lv_aload_n hx hb dX0_allows_251 rfl (lv_at hl 0 rfl) ?_
                        refine va_get (D := D) (ci := 0) (v := .int u.2.1) (C := RX0) (T := TX0) (N := 6) hx hb hts hin0 hown hK hP 0 rfl rfl 1 (by decide) (hw w_f_X0_15) (fun _ h9 => h9) rfl dX0_allows_252 ?_
                        refine lv_if_ne (tgt := 262) hx hb dX0_allows_255 (by decide) (fun g22 => ?_) (fun g22 => ?_)
                        · have ht := (if_neg g22).symm.trans ht
                          exact K262 _ _ _ u hP hD hS (lv_sub hl [] rfl) ht
                        · have ht := (if_pos g22).symm.trans ht
                          refine lv_iconst (v := (1 : Int32)) hx hb dX0_allows_258 (by decide) ?_
                          refine lv_goto (tgt := 263) hx hb dX0_allows_259 (by decide) ?_
                          exact K263 _ _ _ u (1 : Int32) hP hD hS (lv_sub hl [] rfl) ht
                    · have ht := (if_neg g20).symm.trans ht
                      by_cases g23 : a1 = (131 : Int32)
                      · have ht := (if_pos g23).symm.trans ht
                        refine lv_lookup (off := 263) (tgt := 264) hx hb dX0_allows_1 (by decide) (by rw [g23]; rfl) (by decide) ?_
                        refine lv_aload_n hx hb dX0_allows_264 rfl (lv_at hl 0 rfl) ?_
                        refine va_get (D := D) (ci := 0) (v := .int u.2.2.2.1) (C := RX0) (T := TX0) (N := 6) hx hb hts hin0 hown hK hP 0 rfl rfl 3 (by decide) (hw w_f_X0_21) (fun _ h9 => h9) rfl dX0_allows_265 ?_
                        refine lv_if_ne (tgt := 278) hx hb dX0_allows_268 (by decide) (fun g24 => ?_) (fun g24 => ?_)
                        · have ht := (if_neg g24).symm.trans ht
                          exact K278 _ _ _ u hP hD hS (lv_sub hl [] rfl) ht
                        · have ht := (if_pos g24).symm.trans ht
                          refine lv_aload_n hx hb dX0_allows_271 rfl (lv_at hl 0 rfl) ?_
                          refine va_get (D := D) (ci := 0) (v := .int u.2.1) (C := RX0) (T := TX0) (N := 6) hx hb hts hin0 hown hK hP 0 rfl rfl 1 (by decide) (hw w_f_X0_15) (fun _ h9 => h9) rfl dX0_allows_272 ?_
                          refine lv_if_eq (tgt := 282) hx hb dX0_allows_275 (by decide) (fun g25 => ?_) (fun g25 => ?_)
                          · have ht := (if_pos g25).symm.trans ht
                            refine lv_iconst (v := (0 : Int32)) hx hb dX0_allows_282 (by decide) ?_
                            exact K283 _ _ _ u (0 : Int32) hP hD hS (lv_sub hl [] rfl) ht
                          · have ht := (if_neg g25).symm.trans ht
                            exact K278 _ _ _ u hP hD hS (lv_sub hl [] rfl) ht
                      · have ht := (if_neg g23).symm.trans ht
                        by_cases g26 : a1 = (132 : Int32)
                        · have ht := (if_pos g26).symm.trans ht
                          refine lv_lookup (off := 283) (tgt := 284) hx hb dX0_allows_1 (by decide) (by rw [g26]; rfl) (by decide) ?_
                          refine lv_aload_n hx hb dX0_allows_284 rfl (lv_at hl 0 rfl) ?_
                          refine va_get (D := D) (ci := 0) (v := .int u.2.2.1) (C := RX0) (T := TX0) (N := 6) hx hb hts hin0 hown hK hP 0 rfl rfl 2 (by decide) (hw w_f_X0_18) (fun _ h9 => h9) rfl dX0_allows_285 ?_
                          refine lv_if_ne (tgt := 295) hx hb dX0_allows_288 (by decide) (fun g27 => ?_) (fun g27 => ?_)
                          · have ht := (if_neg g27).symm.trans ht
                            refine lv_iconst (v := (0 : Int32)) hx hb dX0_allows_295 (by decide) ?_
                            exact K296 _ _ _ u (0 : Int32) hP hD hS (lv_sub hl [] rfl) ht
                          · have ht := (if_pos g27).symm.trans ht
                            refine lv_iconst (v := (1 : Int32)) hx hb dX0_allows_291 (by decide) ?_
                            refine lv_goto (tgt := 296) hx hb dX0_allows_292 (by decide) ?_
                            exact K296 _ _ _ u (1 : Int32) hP hD hS (lv_sub hl [] rfl) ht
                        · have ht := (if_neg g26).symm.trans ht
                          by_cases g28 : a1 = (133 : Int32)
                          · have ht := (if_pos g28).symm.trans ht
                            refine lv_lookup (off := 296) (tgt := 297) hx hb dX0_allows_1 (by decide) (by rw [g28]; rfl) (by decide) ?_
                            refine lv_aload_n hx hb dX0_allows_297 rfl (lv_at hl 0 rfl) ?_
                            refine va_get (D := D) (ci := 0) (v := .int u.2.2.1) (C := RX0) (T := TX0) (N := 6) hx hb hts hin0 hown hK hP 0 rfl rfl 2 (by decide) (hw w_f_X0_18) (fun _ h9 => h9) rfl dX0_allows_298 ?_
                            obtain ⟨b29, ht⟩ := oi_some ht
                            have e9 := Option.some.inj ht
                            subst hQ
                            exact W.zret (ty := .boolean) (v := u.2.2.1) hx hb hr (bok_n b29) (fun t ht9 hW => ⟨⟨u.2.2.1, u, rfl, ⟨pr1 e9, pr2 e9⟩, ⟨by rw [ht9]; exact hP, va_K.moved hW.alike hK, hD⟩⟩, hS.F ht9⟩) hS.2.2 dX0_allows_301
                          · have ht := (if_neg g28).symm.trans ht
                            by_cases g30 : a1 = (134 : Int32)
                            · have ht := (if_pos g30).symm.trans ht
                              refine lv_lookup (off := 301) (tgt := 302) hx hb dX0_allows_1 (by decide) (by rw [g30]; rfl) (by decide) ?_
                              refine lv_aload_n hx hb dX0_allows_302 rfl (lv_at hl 0 rfl) ?_
                              refine va_get (D := D) (ci := 0) (v := .int u.2.2.2.1) (C := RX0) (T := TX0) (N := 6) hx hb hts hin0 hown hK hP 0 rfl rfl 3 (by decide) (hw w_f_X0_21) (fun _ h9 => h9) rfl dX0_allows_303 ?_
                              refine lv_if_ne (tgt := 313) hx hb dX0_allows_306 (by decide) (fun g31 => ?_) (fun g31 => ?_)
                              · have ht := (if_neg g31).symm.trans ht
                                refine lv_iconst (v := (0 : Int32)) hx hb dX0_allows_313 (by decide) ?_
                                exact K314 _ _ _ u (0 : Int32) hP hD hS (lv_sub hl [] rfl) ht
                              · have ht := (if_pos g31).symm.trans ht
                                refine lv_iconst (v := (1 : Int32)) hx hb dX0_allows_309 (by decide) ?_
                                refine lv_goto (tgt := 314) hx hb dX0_allows_310 (by decide) ?_
                                exact K314 _ _ _ u (1 : Int32) hP hD hS (lv_sub hl [] rfl) ht
                            · have ht := (if_neg g30).symm.trans ht
                              refine lv_lookup (off := 314) (tgt := 315) hx hb dX0_allows_1 (by decide) ((lv_osw g1 (by decide)).trans ((lv_osw g2 (by decide)).trans ((lv_osw g4 (by decide)).trans ((lv_osw g6 (by decide)).trans ((lv_osw g8 (by decide)).trans ((lv_osw g10 (by decide)).trans ((lv_osw g13 (by decide)).trans ((lv_osw g16 (by decide)).trans ((lv_osw g18 (by decide)).trans ((lv_osw g20 (by decide)).trans ((lv_osw g23 (by decide)).trans ((lv_osw g26 (by decide)).trans ((lv_osw g28 (by decide)).trans ((lv_osw g30 (by decide)).trans rfl)))))))))))))) (by decide) ?_
                              refine lv_aload_n hx hb dX0_allows_315 rfl (lv_at hl 0 rfl) ?_
                              refine va_get (D := D) (ci := 0) (v := .int u.2.2.2.1) (C := RX0) (T := TX0) (N := 6) hx hb hts hin0 hown hK hP 0 rfl rfl 3 (by decide) (hw w_f_X0_21) (fun _ h9 => h9) rfl dX0_allows_316 ?_
                              obtain ⟨b32, ht⟩ := oi_some ht
                              have e9 := Option.some.inj ht
                              subst hQ
                              exact W.zret (ty := .boolean) (v := u.2.2.2.1) hx hb hr (bok_n b32) (fun t ht9 hW => ⟨⟨u.2.2.2.1, u, rfl, ⟨pr1 e9, pr2 e9⟩, ⟨by rw [ht9]; exact hP, va_K.moved hW.alike hK, hD⟩⟩, hS.F ht9⟩) hS.2.2 dX0_allows_319
def fnW_change_70 (u : sW) (y0 : Int32) : Option (Unit × sW) := if bok y0 then (some ((), (u.1, u.2.1, u.2.2.1, y0, u.2.2.2.2.1, u.2.2.2.2.2))) else none
def fnW_change_52 (u : sW) (x1 : Int32) (x2 : Int32) (y0 : Int32) : Option (Unit × sW) := if bok y0 then (if (x1 &&& (1 : Int32)) = 0 then (fnW_change_70 (u.1, u.2.1, y0, u.2.2.2.1, u.2.2.2.2.1, u.2.2.2.2.2) u.2.2.2.1) else (fnW_change_70 (u.1, u.2.1, y0, u.2.2.2.1, u.2.2.2.2.1, u.2.2.2.2.2) x2)) else none
def fnW_change_34 (u : sW) (x1 : Int32) (x2 : Int32) (y0 : Int32) : Option (Unit × sW) := if bok y0 then (if (x1 &&& (2 : Int32)) = 0 then (fnW_change_52 (u.1, y0, u.2.2.1, u.2.2.2.1, u.2.2.2.2.1, u.2.2.2.2.2) x1 x2 u.2.2.1) else (fnW_change_52 (u.1, y0, u.2.2.1, u.2.2.2.1, u.2.2.2.2.1, u.2.2.2.2.2) x1 x2 x2)) else none
def fnW_change_16 (u : sW) (x1 : Int32) (x2 : Int32) (y0 : Int32) : Option (Unit × sW) := if bok y0 then (if (x1 &&& (4 : Int32)) = 0 then (fnW_change_34 (y0, u.2.1, u.2.2.1, u.2.2.2.1, u.2.2.2.2.1, u.2.2.2.2.2) x1 x2 u.2.1) else (fnW_change_34 (y0, u.2.1, u.2.2.1, u.2.2.2.1, u.2.2.2.2.1, u.2.2.2.2.2) x1 x2 x2)) else none
def fnW_change (u : sW) (a1 : Int32) (a2 : Int32) : Option (Unit × sW) := if (a1 &&& (8 : Int32)) = 0 then (fnW_change_16 u a1 a2 u.1) else (fnW_change_16 u a1 a2 a2)
set_option maxRecDepth 100000 in
set_option maxHeartbeats 4000000 in
theorem ctW_change (l : Launch) (D : va_G) (kI : ClassId) (o : Nat) (sz : Nat) (u : sW) (a1 : Int32) (a2 : Int32) (tg : Unit × sW) (ht : fnW_change u a1 a2 = some tg) : Met l yX0_change (Cond.code yX0_change cX0_change 3 none :: wAll) ({ frames := 0, cells := 0, slots := 0, locals := 0 } : Room) (va_Pc [.ref o, .int a1, .int a2] (prG D kI (clW o) sz u)) (va_Qv (fun (v : sW) => v = tg.2) (poG D kI (clW o) (va_A (clW o u) sz)) (va_A (clW o u) sz)) 0 0 (va_A (clW o u) sz) := by
  refine mOfW (cc := cX0_change) (maxL := 3) (ret := none) (by decide) rfl ?_
  intro p e s m args below meth c s₁ Q R hQ hR B hml hv
  obtain ⟨rfl, hsz, hP, hK, hD0⟩ := hv
  have hx := B.exec
  have hb := B.bytes
  have hr := B.returns
  have hts := atoms_spec (ws := Cond.code yX0_change cX0_change 3 none :: wAll) B.pre
  have hw : ∀ {w : Cond}, w ∈ wAll → w.before _ s = true := fun {w} h => hts w (List.mem_cons_of_mem _ h)
  have hown : s.vm.findClass RX0 = some m.cls := findClass_of_methodNamed B.named
  have hlocks := B.notSynchronized
  have hRf : 0 ≤ R.frames := by rw [hR]; exact Nat.le_refl _
  have hRl : 0 ≤ R.locals := by rw [hR]; exact Nat.le_refl _
  subst hsz
  have hD := hD0.self (sz := s.heap.size)
  generalize hAe : va_A (clW o u) s.heap.size = A at hD  hQ
  have hA : ∀ q : Nat, s.heap.size ≤ q → A q := fun q h => by rw [← hAe]; exact Or.inr h
  have hl := lv_entry ([.ref o, .int a1, .int a2]) (n := 3) (Nat.le_of_ble_eq_true rfl)
  rw [lg_entry_eq]
  generalize (lg_sl ([.ref o, .int a1, .int a2]) ++ List.replicate (3 - (lg_sl ([.ref o, .int a1, .int a2])).length) Slot.unset).toArray = ls at hl ⊢
  have hl : lv_has ls 3 [(0, .ref o), (1, .int a1), (2, .int a2)] := hl
  have hin0 : ∀ w ∈ u_ws RX0 TX0 6, w ∈ (Cond.code yX0_change cX0_change 3 none :: wAll) := fun w h => List.mem_cons_of_mem _ (w_flX0 w h)
  have K70 : ∀ (H : Heap) (locs : List Loc) (ls : Array Slot) (u : sW) (y0 : Int32) , va_P D vwCl (clW o u) H → va_D A (clW o u) → va_S A s.heap H locs → lv_has ls 3 [] → fnW_change_70 u y0 = some tg → W p l e R s m ([.ref o, .int a1, .int a2] : List Value).toArray below meth c H locs 0 0 Q (F0 m 70 ls [.int y0, .ref o]) := by
    intro H locs ls u y0 hP hD hS hl ht
    unfold fnW_change_70 at ht
    obtain ⟨b8, ht⟩ := oi_some ht
    refine va_put (D := D) (ci := 0) (v := .int y0) (ty := .boolean) (C := RX0) (T := TX0) (N := 6) hx hb hts hin0 tyX0 tyX0_ok nmX0 hown hK hP hD hS 0 rfl rfl 3 (by decide) (hw w_f_X0_21) (fun _ h9 => h9) rfl (by decide +kernel) (bok_n b8) (bok_f b8) (Nat.le_of_ble_eq_true rfl) dX0_change_70 (fun H locs hP hD hS => ?_)
    have hP : va_P D vwCl (clW o (u.1, u.2.1, u.2.2.1, y0, u.2.2.2.2.1, u.2.2.2.2.2)) H := hP
    have hD : va_D A (clW o (u.1, u.2.1, u.2.2.1, y0, u.2.2.2.2.1, u.2.2.2.2.2)) := hD
    have e9 := Option.some.inj ht
    subst hQ
    exact W.vret hx hb hr (fun t ht9 hW => ⟨⟨(u.1, u.2.1, u.2.2.1, y0, u.2.2.2.2.1, u.2.2.2.2.2), rfl, pr2 e9, ⟨by rw [ht9]; exact hP, va_K.moved hW.alike hK, hD⟩⟩, hS.F ht9⟩) hS.2.2 dX0_change_73
  have K52 : ∀ (H : Heap) (locs : List Loc) (ls : Array Slot) (u : sW) (x1 : Int32) (x2 : Int32) (y0 : Int32) , va_P D vwCl (clW o u) H → va_D A (clW o u) → va_S A s.heap H locs → lv_has ls 3 [(0, .ref o), (1, .int x1), (2, .int x2)] → fnW_change_52 u x1 x2 y0 = some tg → W p l e R s m ([.ref o, .int a1, .int a2] : List Value).toArray below meth c H locs 0 0 Q (F0 m 52 ls [.int y0, .ref o]) := by
    intro H locs ls u x1 x2 y0 hP hD hS hl ht
    unfold fnW_change_52 at ht
    obtain ⟨b6, ht⟩ := oi_some ht
    refine va_put (D := D) (ci := 0) (v := .int y0) (ty := .boolean) (C := RX0) (T := TX0) (N := 6) hx hb hts hin0 tyX0 tyX0_ok nmX0 hown hK hP hD hS 0 rfl rfl 2 (by decide) (hw w_f_X0_18) (fun _ h9 => h9) rfl (by decide +kernel) (bok_n b6) (bok_f b6) (Nat.le_of_ble_eq_true rfl) dX0_change_52 (fun H locs hP hD hS => ?_)
    have hP : va_P D vwCl (clW o (u.1, u.2.1, y0, u.2.2.2.1, u.2.2.2.2.1, u.2.2.2.2.2)) H := hP
    have hD : va_D A (clW o (u.1, u.2.1, y0, u.2.2.2.1, u.2.2.2.2.1, u.2.2.2.2.2)) := hD
    refine lv_aload_n hx hb dX0_change_55 rfl (lv_at hl 0 rfl) ?_
    refine lv_iload_n hx hb dX0_change_56 rfl (lv_at hl 1 rfl) ?_
    refine lv_iconst (v := (1 : Int32)) hx hb dX0_change_57 (by decide) ?_
    refine lv_iand hx hb dX0_change_58 ?_
    refine lv_if_eq (tgt := 66) hx hb dX0_change_59 (by decide) (fun g7 => ?_) (fun g7 => ?_)
    · have ht := (if_pos g7).symm.trans ht
      refine lv_aload_n hx hb dX0_change_66 rfl (lv_at hl 0 rfl) ?_
      refine va_get (D := D) (ci := 0) (v := .int u.2.2.2.1) (C := RX0) (T := TX0) (N := 6) hx hb hts hin0 hown hK hP 0 rfl rfl 3 (by decide) (hw w_f_X0_21) (fun _ h9 => h9) rfl dX0_change_67 ?_
      exact K70 _ _ _ (u.1, u.2.1, y0, u.2.2.2.1, u.2.2.2.2.1, u.2.2.2.2.2) u.2.2.2.1 hP hD hS (lv_sub hl [] rfl) ht
    · have ht := (if_neg g7).symm.trans ht
      refine lv_iload_n hx hb dX0_change_62 rfl (lv_at hl 2 rfl) ?_
      refine lv_goto (tgt := 70) hx hb dX0_change_63 (by decide) ?_
      exact K70 _ _ _ (u.1, u.2.1, y0, u.2.2.2.1, u.2.2.2.2.1, u.2.2.2.2.2) x2 hP hD hS (lv_sub hl [] rfl) ht
  have K34 : ∀ (H : Heap) (locs : List Loc) (ls : Array Slot) (u : sW) (x1 : Int32) (x2 : Int32) (y0 : Int32) , va_P D vwCl (clW o u) H → va_D A (clW o u) → va_S A s.heap H locs → lv_has ls 3 [(0, .ref o), (1, .int x1), (2, .int x2)] → fnW_change_34 u x1 x2 y0 = some tg → W p l e R s m ([.ref o, .int a1, .int a2] : List Value).toArray below meth c H locs 0 0 Q (F0 m 34 ls [.int y0, .ref o]) := by
    intro H locs ls u x1 x2 y0 hP hD hS hl ht
    unfold fnW_change_34 at ht
    obtain ⟨b4, ht⟩ := oi_some ht
    refine va_put (D := D) (ci := 0) (v := .int y0) (ty := .boolean) (C := RX0) (T := TX0) (N := 6) hx hb hts hin0 tyX0 tyX0_ok nmX0 hown hK hP hD hS 0 rfl rfl 1 (by decide) (hw w_f_X0_15) (fun _ h9 => h9) rfl (by decide +kernel) (bok_n b4) (bok_f b4) (Nat.le_of_ble_eq_true rfl) dX0_change_34 (fun H locs hP hD hS => ?_)
    have hP : va_P D vwCl (clW o (u.1, y0, u.2.2.1, u.2.2.2.1, u.2.2.2.2.1, u.2.2.2.2.2)) H := hP
    have hD : va_D A (clW o (u.1, y0, u.2.2.1, u.2.2.2.1, u.2.2.2.2.1, u.2.2.2.2.2)) := hD
    refine lv_aload_n hx hb dX0_change_37 rfl (lv_at hl 0 rfl) ?_
    refine lv_iload_n hx hb dX0_change_38 rfl (lv_at hl 1 rfl) ?_
    refine lv_iconst (v := (2 : Int32)) hx hb dX0_change_39 (by decide) ?_
    refine lv_iand hx hb dX0_change_40 ?_
    refine lv_if_eq (tgt := 48) hx hb dX0_change_41 (by decide) (fun g5 => ?_) (fun g5 => ?_)
    · have ht := (if_pos g5).symm.trans ht
      refine lv_aload_n hx hb dX0_change_48 rfl (lv_at hl 0 rfl) ?_
      refine va_get (D := D) (ci := 0) (v := .int u.2.2.1) (C := RX0) (T := TX0) (N := 6) hx hb hts hin0 hown hK hP 0 rfl rfl 2 (by decide) (hw w_f_X0_18) (fun _ h9 => h9) rfl dX0_change_49 ?_
      exact K52 _ _ _ (u.1, y0, u.2.2.1, u.2.2.2.1, u.2.2.2.2.1, u.2.2.2.2.2) x1 x2 u.2.2.1 hP hD hS (lv_sub hl [0, 1, 2] rfl) ht
    · have ht := (if_neg g5).symm.trans ht
      refine lv_iload_n hx hb dX0_change_44 rfl (lv_at hl 2 rfl) ?_
      refine lv_goto (tgt := 52) hx hb dX0_change_45 (by decide) ?_
      exact K52 _ _ _ (u.1, y0, u.2.2.1, u.2.2.2.1, u.2.2.2.2.1, u.2.2.2.2.2) x1 x2 x2 hP hD hS (lv_sub hl [0, 1, 2] rfl) ht
  have K16 : ∀ (H : Heap) (locs : List Loc) (ls : Array Slot) (u : sW) (x1 : Int32) (x2 : Int32) (y0 : Int32) , va_P D vwCl (clW o u) H → va_D A (clW o u) → va_S A s.heap H locs → lv_has ls 3 [(0, .ref o), (1, .int x1), (2, .int x2)] → fnW_change_16 u x1 x2 y0 = some tg → W p l e R s m ([.ref o, .int a1, .int a2] : List Value).toArray below meth c H locs 0 0 Q (F0 m 16 ls [.int y0, .ref o]) := by
    intro H locs ls u x1 x2 y0 hP hD hS hl ht
    unfold fnW_change_16 at ht
    obtain ⟨b2, ht⟩ := oi_some ht
    refine va_put (D := D) (ci := 0) (v := .int y0) (ty := .boolean) (C := RX0) (T := TX0) (N := 6) hx hb hts hin0 tyX0 tyX0_ok nmX0 hown hK hP hD hS 0 rfl rfl 0 (by decide) (hw w_f_X0_9) (fun _ h9 => h9) rfl (by decide +kernel) (bok_n b2) (bok_f b2) (Nat.le_of_ble_eq_true rfl) dX0_change_16 (fun H locs hP hD hS => ?_)
    have hP : va_P D vwCl (clW o (y0, u.2.1, u.2.2.1, u.2.2.2.1, u.2.2.2.2.1, u.2.2.2.2.2)) H := hP
    have hD : va_D A (clW o (y0, u.2.1, u.2.2.1, u.2.2.2.1, u.2.2.2.2.1, u.2.2.2.2.2)) := hD
    refine lv_aload_n hx hb dX0_change_19 rfl (lv_at hl 0 rfl) ?_
    refine lv_iload_n hx hb dX0_change_20 rfl (lv_at hl 1 rfl) ?_
    refine lv_iconst (v := (4 : Int32)) hx hb dX0_change_21 (by decide) ?_
    refine lv_iand hx hb dX0_change_22 ?_
    refine lv_if_eq (tgt := 30) hx hb dX0_change_23 (by decide) (fun g3 => ?_) (fun g3 => ?_)
    · have ht := (if_pos g3).symm.trans ht
      refine lv_aload_n hx hb dX0_change_30 rfl (lv_at hl 0 rfl) ?_
      refine va_get (D := D) (ci := 0) (v := .int u.2.1) (C := RX0) (T := TX0) (N := 6) hx hb hts hin0 hown hK hP 0 rfl rfl 1 (by decide) (hw w_f_X0_15) (fun _ h9 => h9) rfl dX0_change_31 ?_
      exact K34 _ _ _ (y0, u.2.1, u.2.2.1, u.2.2.2.1, u.2.2.2.2.1, u.2.2.2.2.2) x1 x2 u.2.1 hP hD hS (lv_sub hl [0, 1, 2] rfl) ht
    · have ht := (if_neg g3).symm.trans ht
      refine lv_iload_n hx hb dX0_change_26 rfl (lv_at hl 2 rfl) ?_
      refine lv_goto (tgt := 34) hx hb dX0_change_27 (by decide) ?_
      exact K34 _ _ _ (y0, u.2.1, u.2.2.1, u.2.2.2.1, u.2.2.2.2.1, u.2.2.2.2.2) x1 x2 x2 hP hD hS (lv_sub hl [0, 1, 2] rfl) ht
  unfold fnW_change at ht
  obtain ⟨H, hHe⟩ : ∃ H : Heap, H = s.heap := ⟨_, rfl⟩
  have hP : va_P D vwCl (clW o u) H := by rw [hHe]; exact hP
  have hS : va_S A s.heap H [] := by rw [hHe]; exact va_S.rf
  rw [← hHe]
  refine lv_aload_n hx hb dX0_change_0 rfl (lv_at hl 0 rfl) ?_
  refine lv_iload_n hx hb dX0_change_1 rfl (lv_at hl 1 rfl) ?_
  refine lv_bipush (v := (8 : Int32)) hx hb dX0_change_2 (by decide) ?_
  refine lv_iand hx hb dX0_change_4 ?_
  refine lv_if_eq (tgt := 12) hx hb dX0_change_5 (by decide) (fun g1 => ?_) (fun g1 => ?_)
  · have ht := (if_pos g1).symm.trans ht
    refine lv_aload_n hx hb dX0_change_12 rfl (lv_at hl 0 rfl) ?_
    refine va_get (D := D) (ci := 0) (v := .int u.1) (C := RX0) (T := TX0) (N := 6) hx hb hts hin0 hown hK hP 0 rfl rfl 0 (by decide) (hw w_f_X0_9) (fun _ h9 => h9) rfl dX0_change_13 ?_
    exact K16 _ _ _ u a1 a2 u.1 hP hD hS (lv_sub hl [0, 1, 2] rfl) ht
  · have ht := (if_neg g1).symm.trans ht
    refine lv_iload_n hx hb dX0_change_8 rfl (lv_at hl 2 rfl) ?_
    refine lv_goto (tgt := 16) hx hb dX0_change_9 (by decide) ?_
    exact K16 _ _ _ u a1 a2 a2 hP hD hS (lv_sub hl [0, 1, 2] rfl) ht
def fnW_settled_38 (u : sW) (x2 : Int32) (x3 : Int32) (x4 : Int32) (y0 : Int32) : Option (Int32 × sW) := if bok y0 then (if bok x2 then (if bok x3 then (some (x4, (u.1, y0, x2, x3, u.2.2.2.2.1, u.2.2.2.2.2))) else none) else none) else none
def fnW_settled_24 (u : sW) (x2 : Int32) (x3 : Int32) (x4 : Int32) (y0 : Int32) : Option (Int32 × sW) := if bok y0 then (if x4 = 0 then (fnW_settled_38 (y0, u.2.1, u.2.2.1, u.2.2.2.1, u.2.2.2.2.1, u.2.2.2.2.2) x2 x3 x4 (1 : Int32)) else (fnW_settled_38 (y0, u.2.1, u.2.2.1, u.2.2.2.1, u.2.2.2.2.1, u.2.2.2.2.2) x2 x3 x4 (0 : Int32))) else none
def fnW_settled (u : sW) (a1 : Int32) (a2 : Int32) (a3 : Int32) : Option (Int32 × sW) := if ((a1 &&& u.2.2.2.2.1) &&& u.2.2.2.2.2) = 0 then (fnW_settled_24 u a2 a3 (a1 &&& u.2.2.2.2.1) (0 : Int32)) else (fnW_settled_24 u a2 a3 (a1 &&& u.2.2.2.2.1) (1 : Int32))
set_option maxRecDepth 100000 in
set_option maxHeartbeats 4000000 in
theorem ctW_settled (l : Launch) (D : va_G) (kI : ClassId) (o : Nat) (sz : Nat) (u : sW) (a1 : Int32) (a2 : Int32) (a3 : Int32) (tg : Int32 × sW) (ht : fnW_settled u a1 a2 a3 = some tg) : Met l yX0_settled (Cond.code yX0_settled cX0_settled 5 (some .int) :: wAll) ({ frames := 0, cells := 0, slots := 0, locals := 0 } : Room) (va_Pc [.ref o, .int a1, .int a2, .int a3] (prG D kI (clW o) sz u)) (va_Qi (fun (x : Int32) (v : sW) => x = tg.1 ∧ v = tg.2) (poG D kI (clW o) (va_A (clW o u) sz)) (va_A (clW o u) sz)) 0 0 (va_A (clW o u) sz) := by
  refine mOfW (cc := cX0_settled) (maxL := 5) (ret := (some .int)) (by decide) rfl ?_
  intro p e s m args below meth c s₁ Q R hQ hR B hml hv
  obtain ⟨rfl, hsz, hP, hK, hD0⟩ := hv
  have hx := B.exec
  have hb := B.bytes
  have hr := B.returns
  have hts := atoms_spec (ws := Cond.code yX0_settled cX0_settled 5 (some .int) :: wAll) B.pre
  have hw : ∀ {w : Cond}, w ∈ wAll → w.before _ s = true := fun {w} h => hts w (List.mem_cons_of_mem _ h)
  have hown : s.vm.findClass RX0 = some m.cls := findClass_of_methodNamed B.named
  have hlocks := B.notSynchronized
  have hRf : 0 ≤ R.frames := by rw [hR]; exact Nat.le_refl _
  have hRl : 0 ≤ R.locals := by rw [hR]; exact Nat.le_refl _
  subst hsz
  have hD := hD0.self (sz := s.heap.size)
  generalize hAe : va_A (clW o u) s.heap.size = A at hD  hQ
  have hA : ∀ q : Nat, s.heap.size ≤ q → A q := fun q h => by rw [← hAe]; exact Or.inr h
  have hl := lv_entry ([.ref o, .int a1, .int a2, .int a3]) (n := 5) (Nat.le_of_ble_eq_true rfl)
  rw [lg_entry_eq]
  generalize (lg_sl ([.ref o, .int a1, .int a2, .int a3]) ++ List.replicate (5 - (lg_sl ([.ref o, .int a1, .int a2, .int a3])).length) Slot.unset).toArray = ls at hl ⊢
  have hl : lv_has ls 5 [(0, .ref o), (1, .int a1), (2, .int a2), (3, .int a3)] := hl
  have hin0 : ∀ w ∈ u_ws RX0 TX0 6, w ∈ (Cond.code yX0_settled cX0_settled 5 (some .int) :: wAll) := fun w h => List.mem_cons_of_mem _ (w_flX0 w h)
  have K38 : ∀ (H : Heap) (locs : List Loc) (ls : Array Slot) (u : sW) (x2 : Int32) (x3 : Int32) (x4 : Int32) (y0 : Int32) , va_P D vwCl (clW o u) H → va_D A (clW o u) → va_S A s.heap H locs → lv_has ls 5 [(0, .ref o), (2, .int x2), (3, .int x3), (4, .int x4)] → fnW_settled_38 u x2 x3 x4 y0 = some tg → W p l e R s m ([.ref o, .int a1, .int a2, .int a3] : List Value).toArray below meth c H locs 0 0 Q (F0 m 38 ls [.int y0, .ref o]) := by
    intro H locs ls u x2 x3 x4 y0 hP hD hS hl ht
    unfold fnW_settled_38 at ht
    obtain ⟨b4, ht⟩ := oi_some ht
    refine va_put (D := D) (ci := 0) (v := .int y0) (ty := .boolean) (C := RX0) (T := TX0) (N := 6) hx hb hts hin0 tyX0 tyX0_ok nmX0 hown hK hP hD hS 0 rfl rfl 1 (by decide) (hw w_f_X0_15) (fun _ h9 => h9) rfl (by decide +kernel) (bok_n b4) (bok_f b4) (Nat.le_of_ble_eq_true rfl) dX0_settled_38 (fun H locs hP hD hS => ?_)
    have hP : va_P D vwCl (clW o (u.1, y0, u.2.2.1, u.2.2.2.1, u.2.2.2.2.1, u.2.2.2.2.2)) H := hP
    have hD : va_D A (clW o (u.1, y0, u.2.2.1, u.2.2.2.1, u.2.2.2.2.1, u.2.2.2.2.2)) := hD
    refine lv_aload_n hx hb dX0_settled_41 rfl (lv_at hl 0 rfl) ?_
    refine lv_iload_n hx hb dX0_settled_42 rfl (lv_at hl 1 rfl) ?_
    obtain ⟨b5, ht⟩ := oi_some ht
    refine va_put (D := D) (ci := 0) (v := .int x2) (ty := .boolean) (C := RX0) (T := TX0) (N := 6) hx hb hts hin0 tyX0 tyX0_ok nmX0 hown hK hP hD hS 0 rfl rfl 2 (by decide) (hw w_f_X0_18) (fun _ h9 => h9) rfl (by decide +kernel) (bok_n b5) (bok_f b5) (Nat.le_of_ble_eq_true rfl) dX0_settled_43 (fun H locs hP hD hS => ?_)
    have hP : va_P D vwCl (clW o (u.1, y0, x2, u.2.2.2.1, u.2.2.2.2.1, u.2.2.2.2.2)) H := hP
    have hD : va_D A (clW o (u.1, y0, x2, u.2.2.2.1, u.2.2.2.2.1, u.2.2.2.2.2)) := hD
    refine lv_aload_n hx hb dX0_settled_46 rfl (lv_at hl 0 rfl) ?_
    refine lv_iload_n hx hb dX0_settled_47 rfl (lv_at hl 2 rfl) ?_
    obtain ⟨b6, ht⟩ := oi_some ht
    refine va_put (D := D) (ci := 0) (v := .int x3) (ty := .boolean) (C := RX0) (T := TX0) (N := 6) hx hb hts hin0 tyX0 tyX0_ok nmX0 hown hK hP hD hS 0 rfl rfl 3 (by decide) (hw w_f_X0_21) (fun _ h9 => h9) rfl (by decide +kernel) (bok_n b6) (bok_f b6) (Nat.le_of_ble_eq_true rfl) dX0_settled_48 (fun H locs hP hD hS => ?_)
    have hP : va_P D vwCl (clW o (u.1, y0, x2, x3, u.2.2.2.2.1, u.2.2.2.2.2)) H := hP
    have hD : va_D A (clW o (u.1, y0, x2, x3, u.2.2.2.2.1, u.2.2.2.2.2)) := hD
    refine lv_iload hx hb dX0_settled_51 (lv_at hl 3 rfl) ?_
    have e9 := Option.some.inj ht
    subst hQ
    exact W.iret (v := x4) hx hb hr (fun t ht9 hW => ⟨⟨x4, (u.1, y0, x2, x3, u.2.2.2.2.1, u.2.2.2.2.2), rfl, ⟨pr1 e9, pr2 e9⟩, ⟨by rw [ht9]; exact hP, va_K.moved hW.alike hK, hD⟩⟩, hS.F ht9⟩) hS.2.2 dX0_settled_53
  have K24 : ∀ (H : Heap) (locs : List Loc) (ls : Array Slot) (u : sW) (x2 : Int32) (x3 : Int32) (x4 : Int32) (y0 : Int32) , va_P D vwCl (clW o u) H → va_D A (clW o u) → va_S A s.heap H locs → lv_has ls 5 [(0, .ref o), (2, .int x2), (3, .int x3), (4, .int x4)] → fnW_settled_24 u x2 x3 x4 y0 = some tg → W p l e R s m ([.ref o, .int a1, .int a2, .int a3] : List Value).toArray below meth c H locs 0 0 Q (F0 m 24 ls [.int y0, .ref o]) := by
    intro H locs ls u x2 x3 x4 y0 hP hD hS hl ht
    unfold fnW_settled_24 at ht
    obtain ⟨b2, ht⟩ := oi_some ht
    refine va_put (D := D) (ci := 0) (v := .int y0) (ty := .boolean) (C := RX0) (T := TX0) (N := 6) hx hb hts hin0 tyX0 tyX0_ok nmX0 hown hK hP hD hS 0 rfl rfl 0 (by decide) (hw w_f_X0_9) (fun _ h9 => h9) rfl (by decide +kernel) (bok_n b2) (bok_f b2) (Nat.le_of_ble_eq_true rfl) dX0_settled_24 (fun H locs hP hD hS => ?_)
    have hP : va_P D vwCl (clW o (y0, u.2.1, u.2.2.1, u.2.2.2.1, u.2.2.2.2.1, u.2.2.2.2.2)) H := hP
    have hD : va_D A (clW o (y0, u.2.1, u.2.2.1, u.2.2.2.1, u.2.2.2.2.1, u.2.2.2.2.2)) := hD
    refine lv_aload_n hx hb dX0_settled_27 rfl (lv_at hl 0 rfl) ?_
    refine lv_iload hx hb dX0_settled_28 (lv_at hl 3 rfl) ?_
    refine lv_if_ne (tgt := 37) hx hb dX0_settled_30 (by decide) (fun g3 => ?_) (fun g3 => ?_)
    · have ht := (if_neg g3).symm.trans ht
      refine lv_iconst (v := (0 : Int32)) hx hb dX0_settled_37 (by decide) ?_
      exact K38 _ _ _ (y0, u.2.1, u.2.2.1, u.2.2.2.1, u.2.2.2.2.1, u.2.2.2.2.2) x2 x3 x4 (0 : Int32) hP hD hS (lv_sub hl [0, 1, 2, 3] rfl) ht
    · have ht := (if_pos g3).symm.trans ht
      refine lv_iconst (v := (1 : Int32)) hx hb dX0_settled_33 (by decide) ?_
      refine lv_goto (tgt := 38) hx hb dX0_settled_34 (by decide) ?_
      exact K38 _ _ _ (y0, u.2.1, u.2.2.1, u.2.2.2.1, u.2.2.2.2.1, u.2.2.2.2.2) x2 x3 x4 (1 : Int32) hP hD hS (lv_sub hl [0, 1, 2, 3] rfl) ht
  unfold fnW_settled at ht
  obtain ⟨H, hHe⟩ : ∃ H : Heap, H = s.heap := ⟨_, rfl⟩
  have hP : va_P D vwCl (clW o u) H := by rw [hHe]; exact hP
  have hS : va_S A s.heap H [] := by rw [hHe]; exact va_S.rf
  rw [← hHe]
  refine lv_iload_n hx hb dX0_settled_0 rfl (lv_at hl 1 rfl) ?_
  refine lv_aload_n hx hb dX0_settled_1 rfl (lv_at hl 0 rfl) ?_
  refine va_get (D := D) (ci := 0) (v := .int u.2.2.2.2.1) (C := RX0) (T := TX0) (N := 6) hx hb hts hin0 hown hK hP 0 rfl rfl 4 (by decide) (hw w_f_X0_25) (fun _ h9 => h9) rfl dX0_settled_2 ?_
  refine lv_iand hx hb dX0_settled_5 ?_
  refine lv_istore (lv' := [(4, .int (a1 &&& u.2.2.2.2.1)), (0, .ref o), (1, .int a1), (2, .int a2), (3, .int a3)]) hx hb dX0_settled_6 hl (by decide) rfl (fun ls hl => ?_)
  refine lv_aload_n hx hb dX0_settled_8 rfl (lv_at hl 1 rfl) ?_
  refine lv_iload hx hb dX0_settled_9 (lv_at hl 0 rfl) ?_
  refine lv_aload_n hx hb dX0_settled_11 rfl (lv_at hl 1 rfl) ?_
  refine va_get (D := D) (ci := 0) (v := .int u.2.2.2.2.2) (C := RX0) (T := TX0) (N := 6) hx hb hts hin0 hown hK hP 0 rfl rfl 5 (by decide) (hw w_f_X0_30) (fun _ h9 => h9) rfl dX0_settled_12 ?_
  refine lv_iand hx hb dX0_settled_15 ?_
  refine lv_if_eq (tgt := 23) hx hb dX0_settled_16 (by decide) (fun g1 => ?_) (fun g1 => ?_)
  · have ht := (if_pos g1).symm.trans ht
    refine lv_iconst (v := (0 : Int32)) hx hb dX0_settled_23 (by decide) ?_
    exact K24 _ _ _ u a2 a3 (a1 &&& u.2.2.2.2.1) (0 : Int32) hP hD hS (lv_sub hl [1, 3, 4, 0] rfl) ht
  · have ht := (if_neg g1).symm.trans ht
    refine lv_iconst (v := (1 : Int32)) hx hb dX0_settled_19 (by decide) ?_
    refine lv_goto (tgt := 24) hx hb dX0_settled_20 (by decide) ?_
    exact K24 _ _ _ u a2 a3 (a1 &&& u.2.2.2.2.1) (1 : Int32) hP hD hS (lv_sub hl [1, 3, 4, 0] rfl) ht
def fnW_difference_55 (u : sW) (y0 : Int32) (y1 : Int32) (y2 : Int32) : Option (Int32 × sW) := (fnW_settled u y2 y1 y0).bind (fun r4 => some (r4.1, r4.2))
def fnW_difference_39 (u : sW) (x1 : Int32) (x2 : Int32) (x3 : Int32) (y0 : Int32) : Option (Int32 × sW) := if x2 ≤ x1 then (fnW_difference_55 u (0 : Int32) y0 x3) else (fnW_difference_55 u (1 : Int32) y0 x3)
def fnW_difference_38 (u : sW) (x1 : Int32) (x2 : Int32) (x3 : Int32) : Option (Int32 × sW) := fnW_difference_39 u x1 x2 x3 (0 : Int32)
def fnW_difference (u : sW) (a1 : Int32) (a2 : Int32) : Option (Int32 × sW) := if (a1 &&& u.2.2.2.2.2) = (a2 &&& u.2.2.2.2.2) then (fnW_difference_38 u a1 a2 (a1 - a2)) else (if ((a1 - a2) &&& u.2.2.2.2.2) = (a2 &&& u.2.2.2.2.2) then (fnW_difference_39 u a1 a2 (a1 - a2) (1 : Int32)) else (fnW_difference_38 u a1 a2 (a1 - a2)))
set_option maxRecDepth 100000 in
set_option maxHeartbeats 4000000 in
theorem ctW_difference (l : Launch) (D : va_G) (kI : ClassId) (o : Nat) (sz : Nat) (u : sW) (a1 : Int32) (a2 : Int32) (tg : Int32 × sW) (ht : fnW_difference u a1 a2 = some tg) : Met l yX0_difference (Cond.code yX0_difference cX0_difference 5 (some .int) :: wAll) ({ frames := 1, cells := 0, slots := 0, locals := 24 } : Room) (va_Pc [.ref o, .int a1, .int a2] (prG D kI (clW o) sz u)) (va_Qi (fun (x : Int32) (v : sW) => x = tg.1 ∧ v = tg.2) (poG D kI (clW o) (va_A (clW o u) sz)) (va_A (clW o u) sz)) 0 0 (va_A (clW o u) sz) := by
  refine mOfW (cc := cX0_difference) (maxL := 5) (ret := (some .int)) (by decide) rfl ?_
  intro p e s m args below meth c s₁ Q R hQ hR B hml hv
  obtain ⟨rfl, hsz, hP, hK, hD0⟩ := hv
  have hx := B.exec
  have hb := B.bytes
  have hr := B.returns
  have hts := atoms_spec (ws := Cond.code yX0_difference cX0_difference 5 (some .int) :: wAll) B.pre
  have hw : ∀ {w : Cond}, w ∈ wAll → w.before _ s = true := fun {w} h => hts w (List.mem_cons_of_mem _ h)
  have hown : s.vm.findClass RX0 = some m.cls := findClass_of_methodNamed B.named
  have hlocks := B.notSynchronized
  have hRf : 1 ≤ R.frames := by rw [hR]; exact Nat.le_refl _
  have hRl : 24 ≤ R.locals := by rw [hR]; exact Nat.le_refl _
  subst hsz
  have hD := hD0.self (sz := s.heap.size)
  generalize hAe : va_A (clW o u) s.heap.size = A at hD  hQ
  have hA : ∀ q : Nat, s.heap.size ≤ q → A q := fun q h => by rw [← hAe]; exact Or.inr h
  have hl := lv_entry ([.ref o, .int a1, .int a2]) (n := 5) (Nat.le_of_ble_eq_true rfl)
  rw [lg_entry_eq]
  generalize (lg_sl ([.ref o, .int a1, .int a2]) ++ List.replicate (5 - (lg_sl ([.ref o, .int a1, .int a2])).length) Slot.unset).toArray = ls at hl ⊢
  have hl : lv_has ls 5 [(0, .ref o), (1, .int a1), (2, .int a2)] := hl
  have hin0 : ∀ w ∈ u_ws RX0 TX0 6, w ∈ (Cond.code yX0_difference cX0_difference 5 (some .int) :: wAll) := fun w h => List.mem_cons_of_mem _ (w_flX0 w h)
  have K55 : ∀ (H : Heap) (locs : List Loc) (ls : Array Slot) (u : sW) (y0 : Int32) (y1 : Int32) (y2 : Int32) , va_P D vwCl (clW o u) H → va_D A (clW o u) → va_S A s.heap H locs → lv_has ls 5 [] → fnW_difference_55 u y0 y1 y2 = some tg → W p l e R s m ([.ref o, .int a1, .int a2] : List Value).toArray below meth c H locs 0 0 Q (F0 m 55 ls [.int y0, .int y1, .int y2, .ref o]) := by
    intro H locs ls u y0 y1 y2 hP hD hS hl ht
    unfold fnW_difference_55 at ht
    obtain ⟨r4, h5, ht⟩ := ob_some ht
    refine kG_i (cl := clW o) (u := u) (va_runV (As := [.int y2, .int y1, .int y0]) (rest := []) ⟨hx, hb, hml, hown, hts⟩ (ctW_settled l D kI o H.size u y2 y1 y0 r4 h5) (cwV 3 hts (gV w_m_X0_44 w_im_yX0_settled w_sel_yX0_settled w_init_MicroMill_Work w_co_yX0_settled) rfl rfl rfl (by decide +kernel) ⟨Nat.le_trans (Nat.le_of_ble_eq_true rfl) hRf, Nat.le_trans (Nat.le_of_ble_eq_true rfl) hRl⟩) (preG (cl := clW o) (u := u) (N := 6) (ci := 0) hK hP (hD.weaken (fun _ _ _ _ => trivial)) rfl rfl _) rfl rfl hl.1 rfl (lv_room (Nat.le_of_ble_eq_true rfl)) dX0_difference_55 ⟨Nat.zero_le _, Nat.zero_le _⟩) hD hS hA (fun H locs hP hD hS => ?_)
    have e9 := Option.some.inj ht
    subst hQ
    exact W.iret (v := r4.1) hx hb hr (fun t ht9 hW => ⟨⟨r4.1, r4.2, rfl, ⟨pr1 e9, pr2 e9⟩, ⟨by rw [ht9]; exact hP, va_K.moved hW.alike hK, hD⟩⟩, hS.F ht9⟩) hS.2.2 dX0_difference_58
  have K39 : ∀ (H : Heap) (locs : List Loc) (ls : Array Slot) (u : sW) (x1 : Int32) (x2 : Int32) (x3 : Int32) (y0 : Int32) , va_P D vwCl (clW o u) H → va_D A (clW o u) → va_S A s.heap H locs → lv_has ls 5 [(0, .ref o), (1, .int x1), (2, .int x2), (3, .int x3)] → fnW_difference_39 u x1 x2 x3 y0 = some tg → W p l e R s m ([.ref o, .int a1, .int a2] : List Value).toArray below meth c H locs 0 0 Q (F0 m 39 ls [.int y0]) := by
    intro H locs ls u x1 x2 x3 y0 hP hD hS hl ht
    unfold fnW_difference_39 at ht
    refine lv_istore (lv' := [(4, .int y0), (0, .ref o), (1, .int x1), (2, .int x2), (3, .int x3)]) hx hb dX0_difference_39 hl (by decide) rfl (fun ls hl => ?_)
    refine lv_aload_n hx hb dX0_difference_41 rfl (lv_at hl 1 rfl) ?_
    refine lv_iload_n hx hb dX0_difference_42 rfl (lv_at hl 4 rfl) ?_
    refine lv_iload hx hb dX0_difference_43 (lv_at hl 0 rfl) ?_
    refine lv_iload_n hx hb dX0_difference_45 rfl (lv_at hl 2 rfl) ?_
    refine lv_iload_n hx hb dX0_difference_46 rfl (lv_at hl 3 rfl) ?_
    refine lv_icmp_ge (tgt := 54) hx hb dX0_difference_47 (by decide) (fun g3 => ?_) (fun g3 => ?_)
    · have ht := (if_pos g3).symm.trans ht
      refine lv_iconst (v := (0 : Int32)) hx hb dX0_difference_54 (by decide) ?_
      exact K55 _ _ _ u (0 : Int32) y0 x3 hP hD hS (lv_sub hl [] rfl) ht
    · have ht := (if_neg g3).symm.trans ht
      refine lv_iconst (v := (1 : Int32)) hx hb dX0_difference_50 (by decide) ?_
      refine lv_goto (tgt := 55) hx hb dX0_difference_51 (by decide) ?_
      exact K55 _ _ _ u (1 : Int32) y0 x3 hP hD hS (lv_sub hl [] rfl) ht
  have K38 : ∀ (H : Heap) (locs : List Loc) (ls : Array Slot) (u : sW) (x1 : Int32) (x2 : Int32) (x3 : Int32) , va_P D vwCl (clW o u) H → va_D A (clW o u) → va_S A s.heap H locs → lv_has ls 5 [(0, .ref o), (1, .int x1), (2, .int x2), (3, .int x3)] → fnW_difference_38 u x1 x2 x3 = some tg → W p l e R s m ([.ref o, .int a1, .int a2] : List Value).toArray below meth c H locs 0 0 Q (F0 m 38 ls []) := by
    intro H locs ls u x1 x2 x3 hP hD hS hl ht
    unfold fnW_difference_38 at ht
    refine lv_iconst (v := (0 : Int32)) hx hb dX0_difference_38 (by decide) ?_
    exact K39 _ _ _ u x1 x2 x3 (0 : Int32) hP hD hS (lv_sub hl [0, 1, 2, 3] rfl) ht
  unfold fnW_difference at ht
  obtain ⟨H, hHe⟩ : ∃ H : Heap, H = s.heap := ⟨_, rfl⟩
  have hP : va_P D vwCl (clW o u) H := by rw [hHe]; exact hP
  have hS : va_S A s.heap H [] := by rw [hHe]; exact va_S.rf
  rw [← hHe]
  refine lv_iload_n hx hb dX0_difference_0 rfl (lv_at hl 1 rfl) ?_
  refine lv_iload_n hx hb dX0_difference_1 rfl (lv_at hl 2 rfl) ?_
  refine lv_isub hx hb dX0_difference_2 ?_
  refine lv_istore_n (lv' := [(3, .int (a1 - a2)), (0, .ref o), (1, .int a1), (2, .int a2)]) hx hb dX0_difference_3 rfl hl (by decide) rfl (fun ls hl => ?_)
  refine lv_iload_n hx hb dX0_difference_4 rfl (lv_at hl 2 rfl) ?_
  refine lv_aload_n hx hb dX0_difference_5 rfl (lv_at hl 1 rfl) ?_
  refine va_get (D := D) (ci := 0) (v := .int u.2.2.2.2.2) (C := RX0) (T := TX0) (N := 6) hx hb hts hin0 hown hK hP 0 rfl rfl 5 (by decide) (hw w_f_X0_30) (fun _ h9 => h9) rfl dX0_difference_6 ?_
  refine lv_iand hx hb dX0_difference_9 ?_
  refine lv_iload_n hx hb dX0_difference_10 rfl (lv_at hl 3 rfl) ?_
  refine lv_aload_n hx hb dX0_difference_11 rfl (lv_at hl 1 rfl) ?_
  refine va_get (D := D) (ci := 0) (v := .int u.2.2.2.2.2) (C := RX0) (T := TX0) (N := 6) hx hb hts hin0 hown hK hP 0 rfl rfl 5 (by decide) (hw w_f_X0_30) (fun _ h9 => h9) rfl dX0_difference_12 ?_
  refine lv_iand hx hb dX0_difference_15 ?_
  refine lv_icmp_eq (tgt := 38) hx hb dX0_difference_16 (by decide) (fun g1 => ?_) (fun g1 => ?_)
  · have ht := (if_pos g1).symm.trans ht
    exact K38 _ _ _ u a1 a2 (a1 - a2) hP hD hS (lv_sub hl [1, 2, 3, 0] rfl) ht
  · have ht := (if_neg g1).symm.trans ht
    refine lv_iload_n hx hb dX0_difference_19 rfl (lv_at hl 0 rfl) ?_
    refine lv_aload_n hx hb dX0_difference_20 rfl (lv_at hl 1 rfl) ?_
    refine va_get (D := D) (ci := 0) (v := .int u.2.2.2.2.2) (C := RX0) (T := TX0) (N := 6) hx hb hts hin0 hown hK hP 0 rfl rfl 5 (by decide) (hw w_f_X0_30) (fun _ h9 => h9) rfl dX0_difference_21 ?_
    refine lv_iand hx hb dX0_difference_24 ?_
    refine lv_iload_n hx hb dX0_difference_25 rfl (lv_at hl 3 rfl) ?_
    refine lv_aload_n hx hb dX0_difference_26 rfl (lv_at hl 1 rfl) ?_
    refine va_get (D := D) (ci := 0) (v := .int u.2.2.2.2.2) (C := RX0) (T := TX0) (N := 6) hx hb hts hin0 hown hK hP 0 rfl rfl 5 (by decide) (hw w_f_X0_30) (fun _ h9 => h9) rfl dX0_difference_27 ?_
    refine lv_iand hx hb dX0_difference_30 ?_
    refine lv_icmp_ne (tgt := 38) hx hb dX0_difference_31 (by decide) (fun g2 => ?_) (fun g2 => ?_)
    · have ht := (if_neg g2).symm.trans ht
      exact K38 _ _ _ u a1 a2 (a1 - a2) hP hD hS (lv_sub hl [1, 2, 3, 0] rfl) ht
    · have ht := (if_pos g2).symm.trans ht
      refine lv_iconst (v := (1 : Int32)) hx hb dX0_difference_34 (by decide) ?_
      refine lv_goto (tgt := 39) hx hb dX0_difference_35 (by decide) ?_
      exact K39 _ _ _ u a1 a2 (a1 - a2) (1 : Int32) hP hD hS (lv_sub hl [1, 2, 3, 0] rfl) ht
def fnW_init (u : sW) : Option (Unit × sW) := some ((), ((0 : Int32), (0 : Int32), (0 : Int32), (0 : Int32), (65535 : Int32), (32768 : Int32)))
set_option maxRecDepth 100000 in
set_option maxHeartbeats 4000000 in
theorem ctW_init (l : Launch) (D : va_G) (kI : ClassId) (o : Nat) (sz : Nat) (u : sW) (tg : Unit × sW) (ht : fnW_init u  = some tg) : Met l yX0_init (Cond.code yX0_init cX0_init 1 none :: wAll) ({ frames := 1, cells := 0, slots := 0, locals := 12 } : Room) (va_Pc [.ref o] (prG D kI (clW o) sz u)) (va_Qv (fun (v : sW) => v = tg.2) (poG D kI (clW o) (va_A (clW o u) sz)) (va_A (clW o u) sz)) 0 0 (va_A (clW o u) sz) := by
  refine mOfW (cc := cX0_init) (maxL := 1) (ret := none) (by decide) rfl ?_
  intro p e s m args below meth c s₁ Q R hQ hR B hml hv
  obtain ⟨rfl, hsz, hP, hK, hD0⟩ := hv
  have hx := B.exec
  have hb := B.bytes
  have hr := B.returns
  have hts := atoms_spec (ws := Cond.code yX0_init cX0_init 1 none :: wAll) B.pre
  have hw : ∀ {w : Cond}, w ∈ wAll → w.before _ s = true := fun {w} h => hts w (List.mem_cons_of_mem _ h)
  have hown : s.vm.findClass RX0 = some m.cls := findClass_of_methodNamed B.named
  have hlocks := B.notSynchronized
  have hRf : 1 ≤ R.frames := by rw [hR]; exact Nat.le_refl _
  have hRl : 12 ≤ R.locals := by rw [hR]; exact Nat.le_refl _
  subst hsz
  have hD := hD0.self (sz := s.heap.size)
  generalize hAe : va_A (clW o u) s.heap.size = A at hD  hQ
  have hA : ∀ q : Nat, s.heap.size ≤ q → A q := fun q h => by rw [← hAe]; exact Or.inr h
  have hl := lv_entry ([.ref o]) (n := 1) (Nat.le_of_ble_eq_true rfl)
  rw [lg_entry_eq]
  generalize (lg_sl ([.ref o]) ++ List.replicate (1 - (lg_sl ([.ref o])).length) Slot.unset).toArray = ls at hl ⊢
  have hl : lv_has ls 1 [(0, .ref o)] := hl
  have hin0 : ∀ w ∈ u_ws RX0 TX0 6, w ∈ (Cond.code yX0_init cX0_init 1 none :: wAll) := fun w h => List.mem_cons_of_mem _ (w_flX0 w h)
  unfold fnW_init at ht
  obtain ⟨H, hHe⟩ : ∃ H : Heap, H = s.heap := ⟨_, rfl⟩
  have hP : va_P D vwCl (clW o u) H := by rw [hHe]; exact hP
  have hS : va_S A s.heap H [] := by rw [hHe]; exact va_S.rf
  rw [← hHe]
  refine lv_aload_n hx hb dX0_init_0 rfl (lv_at hl 0 rfl) ?_
  refine W.objInit hx hb hown (hw w_m_X0_3) (hw w_im_objectInit) (hw w_co_objectInit) rfl (by rw [hml]; exact hl.1) rfl dX0_init_1 (Nat.le_trans (Nat.le_of_ble_eq_true rfl) hRf) (Nat.le_trans (Nat.le_of_ble_eq_true rfl) hRl) ?_
  refine W.eq (g2 := F0 m 4 ls []) rfl ?_
  refine lv_aload_n hx hb dX0_init_4 rfl (lv_at hl 0 rfl) ?_
  refine lv_iconst (v := (0 : Int32)) hx hb dX0_init_5 (by decide) ?_
  refine va_put (D := D) (ci := 0) (v := .int (0 : Int32)) (ty := .boolean) (C := RX0) (T := TX0) (N := 6) hx hb hts hin0 tyX0 tyX0_ok nmX0 hown hK hP hD hS 0 rfl rfl 0 (by decide) (hw w_f_X0_9) (fun _ h9 => h9) rfl (by decide +kernel) rfl rfl (Nat.le_of_ble_eq_true rfl) dX0_init_6 (fun H locs hP hD hS => ?_)
  have hP : va_P D vwCl (clW o ((0 : Int32), u.2.1, u.2.2.1, u.2.2.2.1, u.2.2.2.2.1, u.2.2.2.2.2)) H := hP
  have hD : va_D A (clW o ((0 : Int32), u.2.1, u.2.2.1, u.2.2.2.1, u.2.2.2.2.1, u.2.2.2.2.2)) := hD
  refine lv_aload_n hx hb dX0_init_9 rfl (lv_at hl 0 rfl) ?_
  refine lv_iconst (v := (0 : Int32)) hx hb dX0_init_10 (by decide) ?_
  refine va_put (D := D) (ci := 0) (v := .int (0 : Int32)) (ty := .boolean) (C := RX0) (T := TX0) (N := 6) hx hb hts hin0 tyX0 tyX0_ok nmX0 hown hK hP hD hS 0 rfl rfl 1 (by decide) (hw w_f_X0_15) (fun _ h9 => h9) rfl (by decide +kernel) rfl rfl (Nat.le_of_ble_eq_true rfl) dX0_init_11 (fun H locs hP hD hS => ?_)
  have hP : va_P D vwCl (clW o ((0 : Int32), (0 : Int32), u.2.2.1, u.2.2.2.1, u.2.2.2.2.1, u.2.2.2.2.2)) H := hP
  have hD : va_D A (clW o ((0 : Int32), (0 : Int32), u.2.2.1, u.2.2.2.1, u.2.2.2.2.1, u.2.2.2.2.2)) := hD
  refine lv_aload_n hx hb dX0_init_14 rfl (lv_at hl 0 rfl) ?_
  refine lv_iconst (v := (0 : Int32)) hx hb dX0_init_15 (by decide) ?_
  refine va_put (D := D) (ci := 0) (v := .int (0 : Int32)) (ty := .boolean) (C := RX0) (T := TX0) (N := 6) hx hb hts hin0 tyX0 tyX0_ok nmX0 hown hK hP hD hS 0 rfl rfl 2 (by decide) (hw w_f_X0_18) (fun _ h9 => h9) rfl (by decide +kernel) rfl rfl (Nat.le_of_ble_eq_true rfl) dX0_init_16 (fun H locs hP hD hS => ?_)
  have hP : va_P D vwCl (clW o ((0 : Int32), (0 : Int32), (0 : Int32), u.2.2.2.1, u.2.2.2.2.1, u.2.2.2.2.2)) H := hP
  have hD : va_D A (clW o ((0 : Int32), (0 : Int32), (0 : Int32), u.2.2.2.1, u.2.2.2.2.1, u.2.2.2.2.2)) := hD
  refine lv_aload_n hx hb dX0_init_19 rfl (lv_at hl 0 rfl) ?_
  refine lv_iconst (v := (0 : Int32)) hx hb dX0_init_20 (by decide) ?_
  refine va_put (D := D) (ci := 0) (v := .int (0 : Int32)) (ty := .boolean) (C := RX0) (T := TX0) (N := 6) hx hb hts hin0 tyX0 tyX0_ok nmX0 hown hK hP hD hS 0 rfl rfl 3 (by decide) (hw w_f_X0_21) (fun _ h9 => h9) rfl (by decide +kernel) rfl rfl (Nat.le_of_ble_eq_true rfl) dX0_init_21 (fun H locs hP hD hS => ?_)
  have hP : va_P D vwCl (clW o ((0 : Int32), (0 : Int32), (0 : Int32), (0 : Int32), u.2.2.2.2.1, u.2.2.2.2.2)) H := hP
  have hD : va_D A (clW o ((0 : Int32), (0 : Int32), (0 : Int32), (0 : Int32), u.2.2.2.2.1, u.2.2.2.2.2)) := hD
  refine lv_aload_n hx hb dX0_init_24 rfl (lv_at hl 0 rfl) ?_
  refine lv_ldc (v := (65535 : Int32)) hx hb hown (hw w_k_X0_24) dX0_init_25 ?_
  refine va_put (D := D) (ci := 0) (v := .int (65535 : Int32)) (ty := .int) (C := RX0) (T := TX0) (N := 6) hx hb hts hin0 tyX0 tyX0_ok nmX0 hown hK hP hD hS 0 rfl rfl 4 (by decide) (hw w_f_X0_25) (fun _ h9 => h9) rfl (by decide +kernel) rfl rfl (Nat.le_of_ble_eq_true rfl) dX0_init_27 (fun H locs hP hD hS => ?_)
  have hP : va_P D vwCl (clW o ((0 : Int32), (0 : Int32), (0 : Int32), (0 : Int32), (65535 : Int32), u.2.2.2.2.2)) H := hP
  have hD : va_D A (clW o ((0 : Int32), (0 : Int32), (0 : Int32), (0 : Int32), (65535 : Int32), u.2.2.2.2.2)) := hD
  refine lv_aload_n hx hb dX0_init_30 rfl (lv_at hl 0 rfl) ?_
  refine lv_ldc (v := (32768 : Int32)) hx hb hown (hw w_k_X0_29) dX0_init_31 ?_
  refine va_put (D := D) (ci := 0) (v := .int (32768 : Int32)) (ty := .int) (C := RX0) (T := TX0) (N := 6) hx hb hts hin0 tyX0 tyX0_ok nmX0 hown hK hP hD hS 0 rfl rfl 5 (by decide) (hw w_f_X0_30) (fun _ h9 => h9) rfl (by decide +kernel) rfl rfl (Nat.le_of_ble_eq_true rfl) dX0_init_33 (fun H locs hP hD hS => ?_)
  have hP : va_P D vwCl (clW o ((0 : Int32), (0 : Int32), (0 : Int32), (0 : Int32), (65535 : Int32), (32768 : Int32))) H := hP
  have hD : va_D A (clW o ((0 : Int32), (0 : Int32), (0 : Int32), (0 : Int32), (65535 : Int32), (32768 : Int32))) := hD
  have e9 := Option.some.inj ht
  subst hQ
  exact W.vret hx hb hr (fun t ht9 hW => ⟨⟨((0 : Int32), (0 : Int32), (0 : Int32), (0 : Int32), (65535 : Int32), (32768 : Int32)), rfl, pr2 e9, ⟨by rw [ht9]; exact hP, va_K.moved hW.alike hK, hD⟩⟩, hS.F ht9⟩) hS.2.2 dX0_init_36
def fnW_logical (u : sW) (a1 : Int32) : Option (Int32 × sW) := (fnW_settled u a1 (0 : Int32) u.2.2.2.1).bind (fun r1 => some (r1.1, r1.2))
set_option maxRecDepth 100000 in
set_option maxHeartbeats 4000000 in
theorem ctW_logical (l : Launch) (D : va_G) (kI : ClassId) (o : Nat) (sz : Nat) (u : sW) (a1 : Int32) (tg : Int32 × sW) (ht : fnW_logical u a1 = some tg) : Met l yX0_logical (Cond.code yX0_logical cX0_logical 2 (some .int) :: wAll) ({ frames := 1, cells := 0, slots := 0, locals := 24 } : Room) (va_Pc [.ref o, .int a1] (prG D kI (clW o) sz u)) (va_Qi (fun (x : Int32) (v : sW) => x = tg.1 ∧ v = tg.2) (poG D kI (clW o) (va_A (clW o u) sz)) (va_A (clW o u) sz)) 0 0 (va_A (clW o u) sz) := by
  refine mOfW (cc := cX0_logical) (maxL := 2) (ret := (some .int)) (by decide) rfl ?_
  intro p e s m args below meth c s₁ Q R hQ hR B hml hv
  obtain ⟨rfl, hsz, hP, hK, hD0⟩ := hv
  have hx := B.exec
  have hb := B.bytes
  have hr := B.returns
  have hts := atoms_spec (ws := Cond.code yX0_logical cX0_logical 2 (some .int) :: wAll) B.pre
  have hw : ∀ {w : Cond}, w ∈ wAll → w.before _ s = true := fun {w} h => hts w (List.mem_cons_of_mem _ h)
  have hown : s.vm.findClass RX0 = some m.cls := findClass_of_methodNamed B.named
  have hlocks := B.notSynchronized
  have hRf : 1 ≤ R.frames := by rw [hR]; exact Nat.le_refl _
  have hRl : 24 ≤ R.locals := by rw [hR]; exact Nat.le_refl _
  subst hsz
  have hD := hD0.self (sz := s.heap.size)
  generalize hAe : va_A (clW o u) s.heap.size = A at hD  hQ
  have hA : ∀ q : Nat, s.heap.size ≤ q → A q := fun q h => by rw [← hAe]; exact Or.inr h
  have hl := lv_entry ([.ref o, .int a1]) (n := 2) (Nat.le_of_ble_eq_true rfl)
  rw [lg_entry_eq]
  generalize (lg_sl ([.ref o, .int a1]) ++ List.replicate (2 - (lg_sl ([.ref o, .int a1])).length) Slot.unset).toArray = ls at hl ⊢
  have hl : lv_has ls 2 [(0, .ref o), (1, .int a1)] := hl
  have hin0 : ∀ w ∈ u_ws RX0 TX0 6, w ∈ (Cond.code yX0_logical cX0_logical 2 (some .int) :: wAll) := fun w h => List.mem_cons_of_mem _ (w_flX0 w h)
  unfold fnW_logical at ht
  obtain ⟨H, hHe⟩ : ∃ H : Heap, H = s.heap := ⟨_, rfl⟩
  have hP : va_P D vwCl (clW o u) H := by rw [hHe]; exact hP
  have hS : va_S A s.heap H [] := by rw [hHe]; exact va_S.rf
  rw [← hHe]
  refine lv_aload_n hx hb dX0_logical_0 rfl (lv_at hl 0 rfl) ?_
  refine lv_iload_n hx hb dX0_logical_1 rfl (lv_at hl 1 rfl) ?_
  refine lv_iconst (v := (0 : Int32)) hx hb dX0_logical_2 (by decide) ?_
  refine lv_aload_n hx hb dX0_logical_3 rfl (lv_at hl 0 rfl) ?_
  refine va_get (D := D) (ci := 0) (v := .int u.2.2.2.1) (C := RX0) (T := TX0) (N := 6) hx hb hts hin0 hown hK hP 0 rfl rfl 3 (by decide) (hw w_f_X0_21) (fun _ h9 => h9) rfl dX0_logical_4 ?_
  obtain ⟨r1, h2, ht⟩ := ob_some ht
  refine kG_i (cl := clW o) (u := u) (va_runV (As := [.int a1, .int (0 : Int32), .int u.2.2.2.1]) (rest := []) ⟨hx, hb, hml, hown, hts⟩ (ctW_settled l D kI o H.size u a1 (0 : Int32) u.2.2.2.1 r1 h2) (cwV 3 hts (gV w_m_X0_44 w_im_yX0_settled w_sel_yX0_settled w_init_MicroMill_Work w_co_yX0_settled) rfl rfl rfl (by decide +kernel) ⟨Nat.le_trans (Nat.le_of_ble_eq_true rfl) hRf, Nat.le_trans (Nat.le_of_ble_eq_true rfl) hRl⟩) (preG (cl := clW o) (u := u) (N := 6) (ci := 0) hK hP (hD.weaken (fun _ _ _ _ => trivial)) rfl rfl _) rfl rfl hl.1 rfl (lv_room (Nat.le_of_ble_eq_true rfl)) dX0_logical_7 ⟨Nat.zero_le _, Nat.zero_le _⟩) hD hS hA (fun H locs hP hD hS => ?_)
  have e9 := Option.some.inj ht
  subst hQ
  exact W.iret (v := r1.1) hx hb hr (fun t ht9 hW => ⟨⟨r1.1, r1.2, rfl, ⟨pr1 e9, pr2 e9⟩, ⟨by rw [ht9]; exact hP, va_K.moved hW.alike hK, hD⟩⟩, hS.F ht9⟩) hS.2.2 dX0_logical_10
def fnW_swapped_44 (u : sW) (x2 : Int32) (y0 : Int32) : Option (Int32 × sW) := if bok y0 then (some (x2, (u.1, y0, (0 : Int32), (0 : Int32), u.2.2.2.2.1, u.2.2.2.2.2))) else none
def fnW_swapped_27 (u : sW) (x2 : Int32) (y0 : Int32) : Option (Int32 × sW) := if bok y0 then (if (x2 &&& (255 : Int32)) = 0 then (fnW_swapped_44 (y0, u.2.1, u.2.2.1, u.2.2.2.1, u.2.2.2.2.1, u.2.2.2.2.2) x2 (1 : Int32)) else (fnW_swapped_44 (y0, u.2.1, u.2.2.1, u.2.2.2.1, u.2.2.2.2.1, u.2.2.2.2.2) x2 (0 : Int32))) else none
def fnW_swapped (u : sW) (a1 : Int32) : Option (Int32 × sW) := if ((((a1 <<< ((8 : Int32) &&& 31)) ||| (a1 >>> ((8 : Int32) &&& 31))) &&& (65535 : Int32)) &&& (128 : Int32)) = 0 then (fnW_swapped_27 u (((a1 <<< ((8 : Int32) &&& 31)) ||| (a1 >>> ((8 : Int32) &&& 31))) &&& (65535 : Int32)) (0 : Int32)) else (fnW_swapped_27 u (((a1 <<< ((8 : Int32) &&& 31)) ||| (a1 >>> ((8 : Int32) &&& 31))) &&& (65535 : Int32)) (1 : Int32))
set_option maxRecDepth 100000 in
set_option maxHeartbeats 4000000 in
theorem ctW_swapped (l : Launch) (D : va_G) (kI : ClassId) (o : Nat) (sz : Nat) (u : sW) (a1 : Int32) (tg : Int32 × sW) (ht : fnW_swapped u a1 = some tg) : Met l yX0_swapped (Cond.code yX0_swapped cX0_swapped 3 (some .int) :: wAll) ({ frames := 0, cells := 0, slots := 0, locals := 0 } : Room) (va_Pc [.ref o, .int a1] (prG D kI (clW o) sz u)) (va_Qi (fun (x : Int32) (v : sW) => x = tg.1 ∧ v = tg.2) (poG D kI (clW o) (va_A (clW o u) sz)) (va_A (clW o u) sz)) 0 0 (va_A (clW o u) sz) := by
  refine mOfW (cc := cX0_swapped) (maxL := 3) (ret := (some .int)) (by decide) rfl ?_
  intro p e s m args below meth c s₁ Q R hQ hR B hml hv
  obtain ⟨rfl, hsz, hP, hK, hD0⟩ := hv
  have hx := B.exec
  have hb := B.bytes
  have hr := B.returns
  have hts := atoms_spec (ws := Cond.code yX0_swapped cX0_swapped 3 (some .int) :: wAll) B.pre
  have hw : ∀ {w : Cond}, w ∈ wAll → w.before _ s = true := fun {w} h => hts w (List.mem_cons_of_mem _ h)
  have hown : s.vm.findClass RX0 = some m.cls := findClass_of_methodNamed B.named
  have hlocks := B.notSynchronized
  have hRf : 0 ≤ R.frames := by rw [hR]; exact Nat.le_refl _
  have hRl : 0 ≤ R.locals := by rw [hR]; exact Nat.le_refl _
  subst hsz
  have hD := hD0.self (sz := s.heap.size)
  generalize hAe : va_A (clW o u) s.heap.size = A at hD  hQ
  have hA : ∀ q : Nat, s.heap.size ≤ q → A q := fun q h => by rw [← hAe]; exact Or.inr h
  have hl := lv_entry ([.ref o, .int a1]) (n := 3) (Nat.le_of_ble_eq_true rfl)
  rw [lg_entry_eq]
  generalize (lg_sl ([.ref o, .int a1]) ++ List.replicate (3 - (lg_sl ([.ref o, .int a1])).length) Slot.unset).toArray = ls at hl ⊢
  have hl : lv_has ls 3 [(0, .ref o), (1, .int a1)] := hl
  have hin0 : ∀ w ∈ u_ws RX0 TX0 6, w ∈ (Cond.code yX0_swapped cX0_swapped 3 (some .int) :: wAll) := fun w h => List.mem_cons_of_mem _ (w_flX0 w h)
  have K44 : ∀ (H : Heap) (locs : List Loc) (ls : Array Slot) (u : sW) (x2 : Int32) (y0 : Int32) , va_P D vwCl (clW o u) H → va_D A (clW o u) → va_S A s.heap H locs → lv_has ls 3 [(0, .ref o), (2, .int x2)] → fnW_swapped_44 u x2 y0 = some tg → W p l e R s m ([.ref o, .int a1] : List Value).toArray below meth c H locs 0 0 Q (F0 m 44 ls [.int y0, .ref o]) := by
    intro H locs ls u x2 y0 hP hD hS hl ht
    unfold fnW_swapped_44 at ht
    obtain ⟨b4, ht⟩ := oi_some ht
    refine va_put (D := D) (ci := 0) (v := .int y0) (ty := .boolean) (C := RX0) (T := TX0) (N := 6) hx hb hts hin0 tyX0 tyX0_ok nmX0 hown hK hP hD hS 0 rfl rfl 1 (by decide) (hw w_f_X0_15) (fun _ h9 => h9) rfl (by decide +kernel) (bok_n b4) (bok_f b4) (Nat.le_of_ble_eq_true rfl) dX0_swapped_44 (fun H locs hP hD hS => ?_)
    have hP : va_P D vwCl (clW o (u.1, y0, u.2.2.1, u.2.2.2.1, u.2.2.2.2.1, u.2.2.2.2.2)) H := hP
    have hD : va_D A (clW o (u.1, y0, u.2.2.1, u.2.2.2.1, u.2.2.2.2.1, u.2.2.2.2.2)) := hD
    refine lv_aload_n hx hb dX0_swapped_47 rfl (lv_at hl 0 rfl) ?_
    refine lv_iconst (v := (0 : Int32)) hx hb dX0_swapped_48 (by decide) ?_
    refine va_put (D := D) (ci := 0) (v := .int (0 : Int32)) (ty := .boolean) (C := RX0) (T := TX0) (N := 6) hx hb hts hin0 tyX0 tyX0_ok nmX0 hown hK hP hD hS 0 rfl rfl 2 (by decide) (hw w_f_X0_18) (fun _ h9 => h9) rfl (by decide +kernel) rfl rfl (Nat.le_of_ble_eq_true rfl) dX0_swapped_49 (fun H locs hP hD hS => ?_)
    have hP : va_P D vwCl (clW o (u.1, y0, (0 : Int32), u.2.2.2.1, u.2.2.2.2.1, u.2.2.2.2.2)) H := hP
    have hD : va_D A (clW o (u.1, y0, (0 : Int32), u.2.2.2.1, u.2.2.2.2.1, u.2.2.2.2.2)) := hD
    refine lv_aload_n hx hb dX0_swapped_52 rfl (lv_at hl 0 rfl) ?_
    refine lv_iconst (v := (0 : Int32)) hx hb dX0_swapped_53 (by decide) ?_
    refine va_put (D := D) (ci := 0) (v := .int (0 : Int32)) (ty := .boolean) (C := RX0) (T := TX0) (N := 6) hx hb hts hin0 tyX0 tyX0_ok nmX0 hown hK hP hD hS 0 rfl rfl 3 (by decide) (hw w_f_X0_21) (fun _ h9 => h9) rfl (by decide +kernel) rfl rfl (Nat.le_of_ble_eq_true rfl) dX0_swapped_54 (fun H locs hP hD hS => ?_)
    have hP : va_P D vwCl (clW o (u.1, y0, (0 : Int32), (0 : Int32), u.2.2.2.2.1, u.2.2.2.2.2)) H := hP
    have hD : va_D A (clW o (u.1, y0, (0 : Int32), (0 : Int32), u.2.2.2.2.1, u.2.2.2.2.2)) := hD
    refine lv_iload_n hx hb dX0_swapped_57 rfl (lv_at hl 1 rfl) ?_
    have e9 := Option.some.inj ht
    subst hQ
    exact W.iret (v := x2) hx hb hr (fun t ht9 hW => ⟨⟨x2, (u.1, y0, (0 : Int32), (0 : Int32), u.2.2.2.2.1, u.2.2.2.2.2), rfl, ⟨pr1 e9, pr2 e9⟩, ⟨by rw [ht9]; exact hP, va_K.moved hW.alike hK, hD⟩⟩, hS.F ht9⟩) hS.2.2 dX0_swapped_58
  have K27 : ∀ (H : Heap) (locs : List Loc) (ls : Array Slot) (u : sW) (x2 : Int32) (y0 : Int32) , va_P D vwCl (clW o u) H → va_D A (clW o u) → va_S A s.heap H locs → lv_has ls 3 [(0, .ref o), (2, .int x2)] → fnW_swapped_27 u x2 y0 = some tg → W p l e R s m ([.ref o, .int a1] : List Value).toArray below meth c H locs 0 0 Q (F0 m 27 ls [.int y0, .ref o]) := by
    intro H locs ls u x2 y0 hP hD hS hl ht
    unfold fnW_swapped_27 at ht
    obtain ⟨b2, ht⟩ := oi_some ht
    refine va_put (D := D) (ci := 0) (v := .int y0) (ty := .boolean) (C := RX0) (T := TX0) (N := 6) hx hb hts hin0 tyX0 tyX0_ok nmX0 hown hK hP hD hS 0 rfl rfl 0 (by decide) (hw w_f_X0_9) (fun _ h9 => h9) rfl (by decide +kernel) (bok_n b2) (bok_f b2) (Nat.le_of_ble_eq_true rfl) dX0_swapped_27 (fun H locs hP hD hS => ?_)
    have hP : va_P D vwCl (clW o (y0, u.2.1, u.2.2.1, u.2.2.2.1, u.2.2.2.2.1, u.2.2.2.2.2)) H := hP
    have hD : va_D A (clW o (y0, u.2.1, u.2.2.1, u.2.2.2.1, u.2.2.2.2.1, u.2.2.2.2.2)) := hD
    refine lv_aload_n hx hb dX0_swapped_30 rfl (lv_at hl 0 rfl) ?_
    refine lv_iload_n hx hb dX0_swapped_31 rfl (lv_at hl 1 rfl) ?_
    refine lv_sipush (v := (255 : Int32)) hx hb dX0_swapped_32 (by decide) ?_
    refine lv_iand hx hb dX0_swapped_35 ?_
    refine lv_if_ne (tgt := 43) hx hb dX0_swapped_36 (by decide) (fun g3 => ?_) (fun g3 => ?_)
    · have ht := (if_neg g3).symm.trans ht
      refine lv_iconst (v := (0 : Int32)) hx hb dX0_swapped_43 (by decide) ?_
      exact K44 _ _ _ (y0, u.2.1, u.2.2.1, u.2.2.2.1, u.2.2.2.2.1, u.2.2.2.2.2) x2 (0 : Int32) hP hD hS (lv_sub hl [0, 1] rfl) ht
    · have ht := (if_pos g3).symm.trans ht
      refine lv_iconst (v := (1 : Int32)) hx hb dX0_swapped_39 (by decide) ?_
      refine lv_goto (tgt := 44) hx hb dX0_swapped_40 (by decide) ?_
      exact K44 _ _ _ (y0, u.2.1, u.2.2.1, u.2.2.2.1, u.2.2.2.2.1, u.2.2.2.2.2) x2 (1 : Int32) hP hD hS (lv_sub hl [0, 1] rfl) ht
  unfold fnW_swapped at ht
  obtain ⟨H, hHe⟩ : ∃ H : Heap, H = s.heap := ⟨_, rfl⟩
  have hP : va_P D vwCl (clW o u) H := by rw [hHe]; exact hP
  have hS : va_S A s.heap H [] := by rw [hHe]; exact va_S.rf
  rw [← hHe]
  refine lv_iload_n hx hb dX0_swapped_0 rfl (lv_at hl 1 rfl) ?_
  refine lv_bipush (v := (8 : Int32)) hx hb dX0_swapped_1 (by decide) ?_
  refine lv_ishl hx hb dX0_swapped_3 ?_
  refine lv_iload_n hx hb dX0_swapped_4 rfl (lv_at hl 1 rfl) ?_
  refine lv_bipush (v := (8 : Int32)) hx hb dX0_swapped_5 (by decide) ?_
  refine lv_ishr hx hb dX0_swapped_7 ?_
  refine lv_ior hx hb dX0_swapped_8 ?_
  refine lv_ldc (v := (65535 : Int32)) hx hb hown (hw w_k_X0_24) dX0_swapped_9 ?_
  refine lv_iand hx hb dX0_swapped_11 ?_
  refine lv_istore_n (lv' := [(2, .int (((a1 <<< ((8 : Int32) &&& 31)) ||| (a1 >>> ((8 : Int32) &&& 31))) &&& (65535 : Int32))), (0, .ref o), (1, .int a1)]) hx hb dX0_swapped_12 rfl hl (by decide) rfl (fun ls hl => ?_)
  refine lv_aload_n hx hb dX0_swapped_13 rfl (lv_at hl 1 rfl) ?_
  refine lv_iload_n hx hb dX0_swapped_14 rfl (lv_at hl 0 rfl) ?_
  refine lv_sipush (v := (128 : Int32)) hx hb dX0_swapped_15 (by decide) ?_
  refine lv_iand hx hb dX0_swapped_18 ?_
  refine lv_if_eq (tgt := 26) hx hb dX0_swapped_19 (by decide) (fun g1 => ?_) (fun g1 => ?_)
  · have ht := (if_pos g1).symm.trans ht
    refine lv_iconst (v := (0 : Int32)) hx hb dX0_swapped_26 (by decide) ?_
    exact K27 _ _ _ u (((a1 <<< ((8 : Int32) &&& 31)) ||| (a1 >>> ((8 : Int32) &&& 31))) &&& (65535 : Int32)) (0 : Int32) hP hD hS (lv_sub hl [1, 0] rfl) ht
  · have ht := (if_neg g1).symm.trans ht
    refine lv_iconst (v := (1 : Int32)) hx hb dX0_swapped_22 (by decide) ?_
    refine lv_goto (tgt := 27) hx hb dX0_swapped_23 (by decide) ?_
    exact K27 _ _ _ u (((a1 <<< ((8 : Int32) &&& 31)) ||| (a1 >>> ((8 : Int32) &&& 31))) &&& (65535 : Int32)) (1 : Int32) hP hD hS (lv_sub hl [1, 0] rfl) ht
def fnW_ofOne_246 (u : sW) (y0 : Int32) : Option (Int32 × sW) := some (y0, u)
def fnW_ofOne_233 (u : sW) (y0 : Int32) (y1 : Int32) (y2 : Int32) : Option (Int32 × sW) := (fnW_settled u y2 y1 y0).bind (fun r39 => fnW_ofOne_246 r39.2 r39.1)
def fnW_ofOne_224 (u : sW) (x2 : Int32) (y0 : Int32) (y1 : Int32) : Option (Int32 × sW) := if x2 = 0 then (fnW_ofOne_233 u (1 : Int32) y0 y1) else (fnW_ofOne_233 u (0 : Int32) y0 y1)
def fnW_ofOne_199 (u : sW) (y0 : Int32) : Option (Int32 × sW) := some (y0, u)
def fnW_ofOne_186 (u : sW) (y0 : Int32) (y1 : Int32) (y2 : Int32) : Option (Int32 × sW) := (fnW_settled u y2 y1 y0).bind (fun r37 => fnW_ofOne_199 r37.2 r37.1)
def fnW_ofOne_173 (u : sW) (x2 : Int32) (y0 : Int32) (y1 : Int32) : Option (Int32 × sW) := if x2 = u.2.2.2.2.1 then (fnW_ofOne_186 u (1 : Int32) y0 y1) else (fnW_ofOne_186 u (0 : Int32) y0 y1)
def fnW_ofOne_143 (u : sW) (y0 : Int32) (y1 : Int32) (y2 : Int32) : Option (Int32 × sW) := (fnW_settled u y2 y1 y0).bind (fun r35 => some (r35.1, r35.2))
def fnW_ofOne_134 (u : sW) (x2 : Int32) (y0 : Int32) (y1 : Int32) : Option (Int32 × sW) := if x2 = 0 then (fnW_ofOne_143 u (0 : Int32) y0 y1) else (fnW_ofOne_143 u (1 : Int32) y0 y1)
def fnW_ofOne_110 (u : sW) (y0 : Int32) (y1 : Int32) : Option (Int32 × sW) := (fnW_settled u y1 y0 u.2.2.2.1).bind (fun r30 => some (r30.1, r30.2))
def fnW_ofOne_85 (u : sW) (y0 : Int32) (y1 : Int32) : Option (Int32 × sW) := (fnW_settled u y1 y0 u.2.2.2.1).bind (fun r28 => some (r28.1, r28.2))
def fnW_ofOne (u : sW) (a1 : Int32) (a2 : Int32) : Option (Int32 × sW) := if a1 = (40 : Int32) then ((fnW_settled u (0 : Int32) (0 : Int32) (0 : Int32)).bind (fun r2 => some (r2.1, r2.2))) else (if a1 = (41 : Int32) then ((fnW_settled u (a2 ^^^ (-1 : Int32)) (0 : Int32) (1 : Int32)).bind (fun r5 => some (r5.1, r5.2))) else (if a1 = (42 : Int32) then (if (a2 + (1 : Int32)) = u.2.2.2.2.2 then (fnW_ofOne_85 u (1 : Int32) (a2 + (1 : Int32))) else (fnW_ofOne_85 u (0 : Int32) (a2 + (1 : Int32)))) else (if a1 = (43 : Int32) then (if a2 = u.2.2.2.2.2 then (fnW_ofOne_110 u (1 : Int32) (a2 - (1 : Int32))) else (fnW_ofOne_110 u (0 : Int32) (a2 - (1 : Int32)))) else (if a1 = (44 : Int32) then (if a2 = u.2.2.2.2.2 then (fnW_ofOne_134 u a2 (1 : Int32) (-a2)) else (fnW_ofOne_134 u a2 (0 : Int32) (-a2))) else (if a1 = (45 : Int32) then (if u.2.2.2.1 = 0 then ((fnW_settled u a2 (0 : Int32) (0 : Int32)).bind (fun r15 => fnW_ofOne_199 r15.2 r15.1)) else (if (a2 + (1 : Int32)) = u.2.2.2.2.2 then (fnW_ofOne_173 u a2 (1 : Int32) (a2 + (1 : Int32))) else (fnW_ofOne_173 u a2 (0 : Int32) (a2 + (1 : Int32))))) else (if a1 = (46 : Int32) then (if u.2.2.2.1 = 0 then ((fnW_settled u a2 (0 : Int32) (0 : Int32)).bind (fun r20 => fnW_ofOne_246 r20.2 r20.1)) else (if a2 = u.2.2.2.2.2 then (fnW_ofOne_224 u a2 (1 : Int32) (a2 - (1 : Int32))) else (fnW_ofOne_224 u a2 (0 : Int32) (a2 - (1 : Int32))))) else (if a1 = (47 : Int32) then ((fnW_settled u a2 (0 : Int32) (0 : Int32)).bind (fun r24 => some (r24.1, r24.2))) else ((fnW_swapped u a2).bind (fun r26 => some (r26.1, r26.2))))))))))
set_option maxRecDepth 100000 in
set_option maxHeartbeats 4000000 in
theorem ctW_ofOne (l : Launch) (D : va_G) (kI : ClassId) (o : Nat) (sz : Nat) (u : sW) (a1 : Int32) (a2 : Int32) (tg : Int32 × sW) (ht : fnW_ofOne u a1 a2 = some tg) : Met l yX0_ofOne (Cond.code yX0_ofOne cX0_ofOne 3 (some .int) :: wAll) ({ frames := 1, cells := 0, slots := 0, locals := 24 } : Room) (va_Pc [.ref o, .int a1, .int a2] (prG D kI (clW o) sz u)) (va_Qi (fun (x : Int32) (v : sW) => x = tg.1 ∧ v = tg.2) (poG D kI (clW o) (va_A (clW o u) sz)) (va_A (clW o u) sz)) 0 0 (va_A (clW o u) sz) := by
  refine mOfW (cc := cX0_ofOne) (maxL := 3) (ret := (some .int)) (by decide) rfl ?_
  intro p e s m args below meth c s₁ Q R hQ hR B hml hv
  obtain ⟨rfl, hsz, hP, hK, hD0⟩ := hv
  have hx := B.exec
  have hb := B.bytes
  have hr := B.returns
  have hts := atoms_spec (ws := Cond.code yX0_ofOne cX0_ofOne 3 (some .int) :: wAll) B.pre
  have hw : ∀ {w : Cond}, w ∈ wAll → w.before _ s = true := fun {w} h => hts w (List.mem_cons_of_mem _ h)
  have hown : s.vm.findClass RX0 = some m.cls := findClass_of_methodNamed B.named
  have hlocks := B.notSynchronized
  have hRf : 1 ≤ R.frames := by rw [hR]; exact Nat.le_refl _
  have hRl : 24 ≤ R.locals := by rw [hR]; exact Nat.le_refl _
  subst hsz
  have hD := hD0.self (sz := s.heap.size)
  generalize hAe : va_A (clW o u) s.heap.size = A at hD  hQ
  have hA : ∀ q : Nat, s.heap.size ≤ q → A q := fun q h => by rw [← hAe]; exact Or.inr h
  have hl := lv_entry ([.ref o, .int a1, .int a2]) (n := 3) (Nat.le_of_ble_eq_true rfl)
  rw [lg_entry_eq]
  generalize (lg_sl ([.ref o, .int a1, .int a2]) ++ List.replicate (3 - (lg_sl ([.ref o, .int a1, .int a2])).length) Slot.unset).toArray = ls at hl ⊢
  have hl : lv_has ls 3 [(0, .ref o), (1, .int a1), (2, .int a2)] := hl
  have hin0 : ∀ w ∈ u_ws RX0 TX0 6, w ∈ (Cond.code yX0_ofOne cX0_ofOne 3 (some .int) :: wAll) := fun w h => List.mem_cons_of_mem _ (w_flX0 w h)
  have K246 : ∀ (H : Heap) (locs : List Loc) (ls : Array Slot) (u : sW) (y0 : Int32) , va_P D vwCl (clW o u) H → va_D A (clW o u) → va_S A s.heap H locs → lv_has ls 3 [] → fnW_ofOne_246 u y0 = some tg → W p l e R s m ([.ref o, .int a1, .int a2] : List Value).toArray below meth c H locs 0 0 Q (F0 m 246 ls [.int y0]) := by
    intro H locs ls u y0 hP hD hS hl ht
    unfold fnW_ofOne_246 at ht
    have e9 := Option.some.inj ht
    subst hQ
    exact W.iret (v := y0) hx hb hr (fun t ht9 hW => ⟨⟨y0, u, rfl, ⟨pr1 e9, pr2 e9⟩, ⟨by rw [ht9]; exact hP, va_K.moved hW.alike hK, hD⟩⟩, hS.F ht9⟩) hS.2.2 dX0_ofOne_246
  have K233 : ∀ (H : Heap) (locs : List Loc) (ls : Array Slot) (u : sW) (y0 : Int32) (y1 : Int32) (y2 : Int32) , va_P D vwCl (clW o u) H → va_D A (clW o u) → va_S A s.heap H locs → lv_has ls 3 [] → fnW_ofOne_233 u y0 y1 y2 = some tg → W p l e R s m ([.ref o, .int a1, .int a2] : List Value).toArray below meth c H locs 0 0 Q (F0 m 233 ls [.int y0, .int y1, .int y2, .ref o]) := by
    intro H locs ls u y0 y1 y2 hP hD hS hl ht
    unfold fnW_ofOne_233 at ht
    obtain ⟨r39, h40, ht⟩ := ob_some ht
    refine kG_i (cl := clW o) (u := u) (va_runV (As := [.int y2, .int y1, .int y0]) (rest := []) ⟨hx, hb, hml, hown, hts⟩ (ctW_settled l D kI o H.size u y2 y1 y0 r39 h40) (cwV 3 hts (gV w_m_X0_44 w_im_yX0_settled w_sel_yX0_settled w_init_MicroMill_Work w_co_yX0_settled) rfl rfl rfl (by decide +kernel) ⟨Nat.le_trans (Nat.le_of_ble_eq_true rfl) hRf, Nat.le_trans (Nat.le_of_ble_eq_true rfl) hRl⟩) (preG (cl := clW o) (u := u) (N := 6) (ci := 0) hK hP (hD.weaken (fun _ _ _ _ => trivial)) rfl rfl _) rfl rfl hl.1 rfl (lv_room (Nat.le_of_ble_eq_true rfl)) dX0_ofOne_233 ⟨Nat.zero_le _, Nat.zero_le _⟩) hD hS hA (fun H locs hP hD hS => ?_)
    refine lv_goto (tgt := 246) hx hb dX0_ofOne_236 (by decide) ?_
    exact K246 _ _ _ r39.2 r39.1 hP hD hS (lv_sub hl [] rfl) ht
  have K224 : ∀ (H : Heap) (locs : List Loc) (ls : Array Slot) (u : sW) (x2 : Int32) (y0 : Int32) (y1 : Int32) , va_P D vwCl (clW o u) H → va_D A (clW o u) → va_S A s.heap H locs → lv_has ls 3 [(2, .int x2)] → fnW_ofOne_224 u x2 y0 y1 = some tg → W p l e R s m ([.ref o, .int a1, .int a2] : List Value).toArray below meth c H locs 0 0 Q (F0 m 224 ls [.int y0, .int y1, .ref o]) := by
    intro H locs ls u x2 y0 y1 hP hD hS hl ht
    unfold fnW_ofOne_224 at ht
    refine lv_iload_n hx hb dX0_ofOne_224 rfl (lv_at hl 0 rfl) ?_
    refine lv_if_ne (tgt := 232) hx hb dX0_ofOne_225 (by decide) (fun g34 => ?_) (fun g34 => ?_)
    · have ht := (if_neg g34).symm.trans ht
      refine lv_iconst (v := (0 : Int32)) hx hb dX0_ofOne_232 (by decide) ?_
      exact K233 _ _ _ u (0 : Int32) y0 y1 hP hD hS (lv_sub hl [] rfl) ht
    · have ht := (if_pos g34).symm.trans ht
      refine lv_iconst (v := (1 : Int32)) hx hb dX0_ofOne_228 (by decide) ?_
      refine lv_goto (tgt := 233) hx hb dX0_ofOne_229 (by decide) ?_
      exact K233 _ _ _ u (1 : Int32) y0 y1 hP hD hS (lv_sub hl [] rfl) ht
  have K199 : ∀ (H : Heap) (locs : List Loc) (ls : Array Slot) (u : sW) (y0 : Int32) , va_P D vwCl (clW o u) H → va_D A (clW o u) → va_S A s.heap H locs → lv_has ls 3 [] → fnW_ofOne_199 u y0 = some tg → W p l e R s m ([.ref o, .int a1, .int a2] : List Value).toArray below meth c H locs 0 0 Q (F0 m 199 ls [.int y0]) := by
    intro H locs ls u y0 hP hD hS hl ht
    unfold fnW_ofOne_199 at ht
    have e9 := Option.some.inj ht
    subst hQ
    exact W.iret (v := y0) hx hb hr (fun t ht9 hW => ⟨⟨y0, u, rfl, ⟨pr1 e9, pr2 e9⟩, ⟨by rw [ht9]; exact hP, va_K.moved hW.alike hK, hD⟩⟩, hS.F ht9⟩) hS.2.2 dX0_ofOne_199
  have K186 : ∀ (H : Heap) (locs : List Loc) (ls : Array Slot) (u : sW) (y0 : Int32) (y1 : Int32) (y2 : Int32) , va_P D vwCl (clW o u) H → va_D A (clW o u) → va_S A s.heap H locs → lv_has ls 3 [] → fnW_ofOne_186 u y0 y1 y2 = some tg → W p l e R s m ([.ref o, .int a1, .int a2] : List Value).toArray below meth c H locs 0 0 Q (F0 m 186 ls [.int y0, .int y1, .int y2, .ref o]) := by
    intro H locs ls u y0 y1 y2 hP hD hS hl ht
    unfold fnW_ofOne_186 at ht
    obtain ⟨r37, h38, ht⟩ := ob_some ht
    refine kG_i (cl := clW o) (u := u) (va_runV (As := [.int y2, .int y1, .int y0]) (rest := []) ⟨hx, hb, hml, hown, hts⟩ (ctW_settled l D kI o H.size u y2 y1 y0 r37 h38) (cwV 3 hts (gV w_m_X0_44 w_im_yX0_settled w_sel_yX0_settled w_init_MicroMill_Work w_co_yX0_settled) rfl rfl rfl (by decide +kernel) ⟨Nat.le_trans (Nat.le_of_ble_eq_true rfl) hRf, Nat.le_trans (Nat.le_of_ble_eq_true rfl) hRl⟩) (preG (cl := clW o) (u := u) (N := 6) (ci := 0) hK hP (hD.weaken (fun _ _ _ _ => trivial)) rfl rfl _) rfl rfl hl.1 rfl (lv_room (Nat.le_of_ble_eq_true rfl)) dX0_ofOne_186 ⟨Nat.zero_le _, Nat.zero_le _⟩) hD hS hA (fun H locs hP hD hS => ?_)
    refine lv_goto (tgt := 199) hx hb dX0_ofOne_189 (by decide) ?_
    exact K199 _ _ _ r37.2 r37.1 hP hD hS (lv_sub hl [] rfl) ht
  have K173 : ∀ (H : Heap) (locs : List Loc) (ls : Array Slot) (u : sW) (x2 : Int32) (y0 : Int32) (y1 : Int32) , va_P D vwCl (clW o u) H → va_D A (clW o u) → va_S A s.heap H locs → lv_has ls 3 [(0, .ref o), (2, .int x2)] → fnW_ofOne_173 u x2 y0 y1 = some tg → W p l e R s m ([.ref o, .int a1, .int a2] : List Value).toArray below meth c H locs 0 0 Q (F0 m 173 ls [.int y0, .int y1, .ref o]) := by
    intro H locs ls u x2 y0 y1 hP hD hS hl ht
    unfold fnW_ofOne_173 at ht
    refine lv_iload_n hx hb dX0_ofOne_173 rfl (lv_at hl 1 rfl) ?_
    refine lv_aload_n hx hb dX0_ofOne_174 rfl (lv_at hl 0 rfl) ?_
    refine va_get (D := D) (ci := 0) (v := .int u.2.2.2.2.1) (C := RX0) (T := TX0) (N := 6) hx hb hts hin0 hown hK hP 0 rfl rfl 4 (by decide) (hw w_f_X0_25) (fun _ h9 => h9) rfl dX0_ofOne_175 ?_
    refine lv_icmp_ne (tgt := 185) hx hb dX0_ofOne_178 (by decide) (fun g33 => ?_) (fun g33 => ?_)
    · have ht := (if_neg g33).symm.trans ht
      refine lv_iconst (v := (0 : Int32)) hx hb dX0_ofOne_185 (by decide) ?_
      exact K186 _ _ _ u (0 : Int32) y0 y1 hP hD hS (lv_sub hl [] rfl) ht
    · have ht := (if_pos g33).symm.trans ht
      refine lv_iconst (v := (1 : Int32)) hx hb dX0_ofOne_181 (by decide) ?_
      refine lv_goto (tgt := 186) hx hb dX0_ofOne_182 (by decide) ?_
      exact K186 _ _ _ u (1 : Int32) y0 y1 hP hD hS (lv_sub hl [] rfl) ht
  have K143 : ∀ (H : Heap) (locs : List Loc) (ls : Array Slot) (u : sW) (y0 : Int32) (y1 : Int32) (y2 : Int32) , va_P D vwCl (clW o u) H → va_D A (clW o u) → va_S A s.heap H locs → lv_has ls 3 [] → fnW_ofOne_143 u y0 y1 y2 = some tg → W p l e R s m ([.ref o, .int a1, .int a2] : List Value).toArray below meth c H locs 0 0 Q (F0 m 143 ls [.int y0, .int y1, .int y2, .ref o]) := by
    intro H locs ls u y0 y1 y2 hP hD hS hl ht
    unfold fnW_ofOne_143 at ht
    obtain ⟨r35, h36, ht⟩ := ob_some ht
    refine kG_i (cl := clW o) (u := u) (va_runV (As := [.int y2, .int y1, .int y0]) (rest := []) ⟨hx, hb, hml, hown, hts⟩ (ctW_settled l D kI o H.size u y2 y1 y0 r35 h36) (cwV 3 hts (gV w_m_X0_44 w_im_yX0_settled w_sel_yX0_settled w_init_MicroMill_Work w_co_yX0_settled) rfl rfl rfl (by decide +kernel) ⟨Nat.le_trans (Nat.le_of_ble_eq_true rfl) hRf, Nat.le_trans (Nat.le_of_ble_eq_true rfl) hRl⟩) (preG (cl := clW o) (u := u) (N := 6) (ci := 0) hK hP (hD.weaken (fun _ _ _ _ => trivial)) rfl rfl _) rfl rfl hl.1 rfl (lv_room (Nat.le_of_ble_eq_true rfl)) dX0_ofOne_143 ⟨Nat.zero_le _, Nat.zero_le _⟩) hD hS hA (fun H locs hP hD hS => ?_)
    have e9 := Option.some.inj ht
    subst hQ
    exact W.iret (v := r35.1) hx hb hr (fun t ht9 hW => ⟨⟨r35.1, r35.2, rfl, ⟨pr1 e9, pr2 e9⟩, ⟨by rw [ht9]; exact hP, va_K.moved hW.alike hK, hD⟩⟩, hS.F ht9⟩) hS.2.2 dX0_ofOne_146
  have K134 : ∀ (H : Heap) (locs : List Loc) (ls : Array Slot) (u : sW) (x2 : Int32) (y0 : Int32) (y1 : Int32) , va_P D vwCl (clW o u) H → va_D A (clW o u) → va_S A s.heap H locs → lv_has ls 3 [(2, .int x2)] → fnW_ofOne_134 u x2 y0 y1 = some tg → W p l e R s m ([.ref o, .int a1, .int a2] : List Value).toArray below meth c H locs 0 0 Q (F0 m 134 ls [.int y0, .int y1, .ref o]) := by
    intro H locs ls u x2 y0 y1 hP hD hS hl ht
    unfold fnW_ofOne_134 at ht
    refine lv_iload_n hx hb dX0_ofOne_134 rfl (lv_at hl 0 rfl) ?_
    refine lv_if_eq (tgt := 142) hx hb dX0_ofOne_135 (by decide) (fun g32 => ?_) (fun g32 => ?_)
    · have ht := (if_pos g32).symm.trans ht
      refine lv_iconst (v := (0 : Int32)) hx hb dX0_ofOne_142 (by decide) ?_
      exact K143 _ _ _ u (0 : Int32) y0 y1 hP hD hS (lv_sub hl [] rfl) ht
    · have ht := (if_neg g32).symm.trans ht
      refine lv_iconst (v := (1 : Int32)) hx hb dX0_ofOne_138 (by decide) ?_
      refine lv_goto (tgt := 143) hx hb dX0_ofOne_139 (by decide) ?_
      exact K143 _ _ _ u (1 : Int32) y0 y1 hP hD hS (lv_sub hl [] rfl) ht
  have K110 : ∀ (H : Heap) (locs : List Loc) (ls : Array Slot) (u : sW) (y0 : Int32) (y1 : Int32) , va_P D vwCl (clW o u) H → va_D A (clW o u) → va_S A s.heap H locs → lv_has ls 3 [(0, .ref o)] → fnW_ofOne_110 u y0 y1 = some tg → W p l e R s m ([.ref o, .int a1, .int a2] : List Value).toArray below meth c H locs 0 0 Q (F0 m 110 ls [.int y0, .int y1, .ref o]) := by
    intro H locs ls u y0 y1 hP hD hS hl ht
    unfold fnW_ofOne_110 at ht
    refine lv_aload_n hx hb dX0_ofOne_110 rfl (lv_at hl 0 rfl) ?_
    refine va_get (D := D) (ci := 0) (v := .int u.2.2.2.1) (C := RX0) (T := TX0) (N := 6) hx hb hts hin0 hown hK hP 0 rfl rfl 3 (by decide) (hw w_f_X0_21) (fun _ h9 => h9) rfl dX0_ofOne_111 ?_
    obtain ⟨r30, h31, ht⟩ := ob_some ht
    refine kG_i (cl := clW o) (u := u) (va_runV (As := [.int y1, .int y0, .int u.2.2.2.1]) (rest := []) ⟨hx, hb, hml, hown, hts⟩ (ctW_settled l D kI o H.size u y1 y0 u.2.2.2.1 r30 h31) (cwV 3 hts (gV w_m_X0_44 w_im_yX0_settled w_sel_yX0_settled w_init_MicroMill_Work w_co_yX0_settled) rfl rfl rfl (by decide +kernel) ⟨Nat.le_trans (Nat.le_of_ble_eq_true rfl) hRf, Nat.le_trans (Nat.le_of_ble_eq_true rfl) hRl⟩) (preG (cl := clW o) (u := u) (N := 6) (ci := 0) hK hP (hD.weaken (fun _ _ _ _ => trivial)) rfl rfl _) rfl rfl hl.1 rfl (lv_room (Nat.le_of_ble_eq_true rfl)) dX0_ofOne_114 ⟨Nat.zero_le _, Nat.zero_le _⟩) hD hS hA (fun H locs hP hD hS => ?_)
    have e9 := Option.some.inj ht
    subst hQ
    exact W.iret (v := r30.1) hx hb hr (fun t ht9 hW => ⟨⟨r30.1, r30.2, rfl, ⟨pr1 e9, pr2 e9⟩, ⟨by rw [ht9]; exact hP, va_K.moved hW.alike hK, hD⟩⟩, hS.F ht9⟩) hS.2.2 dX0_ofOne_117
  have K85 : ∀ (H : Heap) (locs : List Loc) (ls : Array Slot) (u : sW) (y0 : Int32) (y1 : Int32) , va_P D vwCl (clW o u) H → va_D A (clW o u) → va_S A s.heap H locs → lv_has ls 3 [(0, .ref o)] → fnW_ofOne_85 u y0 y1 = some tg → W p l e R s m ([.ref o, .int a1, .int a2] : List Value).toArray below meth c H locs 0 0 Q (F0 m 85 ls [.int y0, .int y1, .ref o]) := by
    intro H locs ls u y0 y1 hP hD hS hl ht
    unfold fnW_ofOne_85 at ht
    refine lv_aload_n hx hb dX0_ofOne_85 rfl (lv_at hl 0 rfl) ?_
    refine va_get (D := D) (ci := 0) (v := .int u.2.2.2.1) (C := RX0) (T := TX0) (N := 6) hx hb hts hin0 hown hK hP 0 rfl rfl 3 (by decide) (hw w_f_X0_21) (fun _ h9 => h9) rfl dX0_ofOne_86 ?_
    obtain ⟨r28, h29, ht⟩ := ob_some ht
    refine kG_i (cl := clW o) (u := u) (va_runV (As := [.int y1, .int y0, .int u.2.2.2.1]) (rest := []) ⟨hx, hb, hml, hown, hts⟩ (ctW_settled l D kI o H.size u y1 y0 u.2.2.2.1 r28 h29) (cwV 3 hts (gV w_m_X0_44 w_im_yX0_settled w_sel_yX0_settled w_init_MicroMill_Work w_co_yX0_settled) rfl rfl rfl (by decide +kernel) ⟨Nat.le_trans (Nat.le_of_ble_eq_true rfl) hRf, Nat.le_trans (Nat.le_of_ble_eq_true rfl) hRl⟩) (preG (cl := clW o) (u := u) (N := 6) (ci := 0) hK hP (hD.weaken (fun _ _ _ _ => trivial)) rfl rfl _) rfl rfl hl.1 rfl (lv_room (Nat.le_of_ble_eq_true rfl)) dX0_ofOne_89 ⟨Nat.zero_le _, Nat.zero_le _⟩) hD hS hA (fun H locs hP hD hS => ?_)
    have e9 := Option.some.inj ht
    subst hQ
    exact W.iret (v := r28.1) hx hb hr (fun t ht9 hW => ⟨⟨r28.1, r28.2, rfl, ⟨pr1 e9, pr2 e9⟩, ⟨by rw [ht9]; exact hP, va_K.moved hW.alike hK, hD⟩⟩, hS.F ht9⟩) hS.2.2 dX0_ofOne_92
  unfold fnW_ofOne at ht
  obtain ⟨H, hHe⟩ : ∃ H : Heap, H = s.heap := ⟨_, rfl⟩
  have hP : va_P D vwCl (clW o u) H := by rw [hHe]; exact hP
  have hS : va_S A s.heap H [] := by rw [hHe]; exact va_S.rf
  rw [← hHe]
  refine lv_iload_n hx hb dX0_ofOne_0 rfl (lv_at hl 1 rfl) ?_
  by_cases g1 : a1 = (40 : Int32)
  · have ht := (if_pos g1).symm.trans ht
    refine lv_tableIn (off := 47) (tgt := 48) hx hb dX0_ofOne_1 (by rw [g1]; decide) (by rw [g1]; decide) (by rw [g1]; rfl) (by decide) ?_
    refine lv_aload_n hx hb dX0_ofOne_48 rfl (lv_at hl 0 rfl) ?_
    refine lv_iconst (v := (0 : Int32)) hx hb dX0_ofOne_49 (by decide) ?_
    refine lv_iconst (v := (0 : Int32)) hx hb dX0_ofOne_50 (by decide) ?_
    refine lv_iconst (v := (0 : Int32)) hx hb dX0_ofOne_51 (by decide) ?_
    obtain ⟨r2, h3, ht⟩ := ob_some ht
    refine kG_i (cl := clW o) (u := u) (va_runV (As := [.int (0 : Int32), .int (0 : Int32), .int (0 : Int32)]) (rest := []) ⟨hx, hb, hml, hown, hts⟩ (ctW_settled l D kI o H.size u (0 : Int32) (0 : Int32) (0 : Int32) r2 h3) (cwV 3 hts (gV w_m_X0_44 w_im_yX0_settled w_sel_yX0_settled w_init_MicroMill_Work w_co_yX0_settled) rfl rfl rfl (by decide +kernel) ⟨Nat.le_trans (Nat.le_of_ble_eq_true rfl) hRf, Nat.le_trans (Nat.le_of_ble_eq_true rfl) hRl⟩) (preG (cl := clW o) (u := u) (N := 6) (ci := 0) hK hP (hD.weaken (fun _ _ _ _ => trivial)) rfl rfl _) rfl rfl hl.1 rfl (lv_room (Nat.le_of_ble_eq_true rfl)) dX0_ofOne_52 ⟨Nat.zero_le _, Nat.zero_le _⟩) hD hS hA (fun H locs hP hD hS => ?_)
    have e9 := Option.some.inj ht
    subst hQ
    exact W.iret (v := r2.1) hx hb hr (fun t ht9 hW => ⟨⟨r2.1, r2.2, rfl, ⟨pr1 e9, pr2 e9⟩, ⟨by rw [ht9]; exact hP, va_K.moved hW.alike hK, hD⟩⟩, hS.F ht9⟩) hS.2.2 dX0_ofOne_55
  · have ht := (if_neg g1).symm.trans ht
    by_cases g4 : a1 = (41 : Int32)
    · have ht := (if_pos g4).symm.trans ht
      refine lv_tableIn (off := 55) (tgt := 56) hx hb dX0_ofOne_1 (by rw [g4]; decide) (by rw [g4]; decide) (by rw [g4]; rfl) (by decide) ?_
      refine lv_aload_n hx hb dX0_ofOne_56 rfl (lv_at hl 0 rfl) ?_
      refine lv_iload_n hx hb dX0_ofOne_57 rfl (lv_at hl 2 rfl) ?_
      refine lv_iconst (v := (-1 : Int32)) hx hb dX0_ofOne_58 (by decide) ?_
      refine lv_ixor hx hb dX0_ofOne_59 ?_
      refine lv_iconst (v := (0 : Int32)) hx hb dX0_ofOne_60 (by decide) ?_
      refine lv_iconst (v := (1 : Int32)) hx hb dX0_ofOne_61 (by decide) ?_
      obtain ⟨r5, h6, ht⟩ := ob_some ht
      refine kG_i (cl := clW o) (u := u) (va_runV (As := [.int (a2 ^^^ (-1 : Int32)), .int (0 : Int32), .int (1 : Int32)]) (rest := []) ⟨hx, hb, hml, hown, hts⟩ (ctW_settled l D kI o H.size u (a2 ^^^ (-1 : Int32)) (0 : Int32) (1 : Int32) r5 h6) (cwV 3 hts (gV w_m_X0_44 w_im_yX0_settled w_sel_yX0_settled w_init_MicroMill_Work w_co_yX0_settled) rfl rfl rfl (by decide +kernel) ⟨Nat.le_trans (Nat.le_of_ble_eq_true rfl) hRf, Nat.le_trans (Nat.le_of_ble_eq_true rfl) hRl⟩) (preG (cl := clW o) (u := u) (N := 6) (ci := 0) hK hP (hD.weaken (fun _ _ _ _ => trivial)) rfl rfl _) rfl rfl hl.1 rfl (lv_room (Nat.le_of_ble_eq_true rfl)) dX0_ofOne_62 ⟨Nat.zero_le _, Nat.zero_le _⟩) hD hS hA (fun H locs hP hD hS => ?_)
      have e9 := Option.some.inj ht
      subst hQ
      exact W.iret (v := r5.1) hx hb hr (fun t ht9 hW => ⟨⟨r5.1, r5.2, rfl, ⟨pr1 e9, pr2 e9⟩, ⟨by rw [ht9]; exact hP, va_K.moved hW.alike hK, hD⟩⟩, hS.F ht9⟩) hS.2.2 dX0_ofOne_65
    · have ht := (if_neg g4).symm.trans ht
      by_cases g7 : a1 = (42 : Int32)
      · have ht := (if_pos g7).symm.trans ht
        refine lv_tableIn (off := 65) (tgt := 66) hx hb dX0_ofOne_1 (by rw [g7]; decide) (by rw [g7]; decide) (by rw [g7]; rfl) (by decide) ?_
        refine lv_aload_n hx hb dX0_ofOne_66 rfl (lv_at hl 0 rfl) ?_
        refine lv_iload_n hx hb dX0_ofOne_67 rfl (lv_at hl 2 rfl) ?_
        refine lv_iconst (v := (1 : Int32)) hx hb dX0_ofOne_68 (by decide) ?_
        refine lv_iadd hx hb dX0_ofOne_69 ?_
        refine lv_iload_n hx hb dX0_ofOne_70 rfl (lv_at hl 2 rfl) ?_
        refine lv_iconst (v := (1 : Int32)) hx hb dX0_ofOne_71 (by decide) ?_
        refine lv_iadd hx hb dX0_ofOne_72 ?_
        refine lv_aload_n hx hb dX0_ofOne_73 rfl (lv_at hl 0 rfl) ?_
        refine va_get (D := D) (ci := 0) (v := .int u.2.2.2.2.2) (C := RX0) (T := TX0) (N := 6) hx hb hts hin0 hown hK hP 0 rfl rfl 5 (by decide) (hw w_f_X0_30) (fun _ h9 => h9) rfl dX0_ofOne_74 ?_
        refine lv_icmp_ne (tgt := 84) hx hb dX0_ofOne_77 (by decide) (fun g8 => ?_) (fun g8 => ?_)
        · have ht := (if_neg g8).symm.trans ht
          refine lv_iconst (v := (0 : Int32)) hx hb dX0_ofOne_84 (by decide) ?_
          exact K85 _ _ _ u (0 : Int32) (a2 + (1 : Int32)) hP hD hS (lv_sub hl [0] rfl) ht
        · have ht := (if_pos g8).symm.trans ht
          refine lv_iconst (v := (1 : Int32)) hx hb dX0_ofOne_80 (by decide) ?_
          refine lv_goto (tgt := 85) hx hb dX0_ofOne_81 (by decide) ?_
          exact K85 _ _ _ u (1 : Int32) (a2 + (1 : Int32)) hP hD hS (lv_sub hl [0] rfl) ht
      · have ht := (if_neg g7).symm.trans ht
        by_cases g9 : a1 = (43 : Int32)
        · have ht := (if_pos g9).symm.trans ht
          refine lv_tableIn (off := 92) (tgt := 93) hx hb dX0_ofOne_1 (by rw [g9]; decide) (by rw [g9]; decide) (by rw [g9]; rfl) (by decide) ?_
          refine lv_aload_n hx hb dX0_ofOne_93 rfl (lv_at hl 0 rfl) ?_
          refine lv_iload_n hx hb dX0_ofOne_94 rfl (lv_at hl 2 rfl) ?_
          refine lv_iconst (v := (1 : Int32)) hx hb dX0_ofOne_95 (by decide) ?_
          refine lv_isub hx hb dX0_ofOne_96 ?_
          refine lv_iload_n hx hb dX0_ofOne_97 rfl (lv_at hl 2 rfl) ?_
          refine lv_aload_n hx hb dX0_ofOne_98 rfl (lv_at hl 0 rfl) ?_
          refine va_get (D := D) (ci := 0) (v := .int u.2.2.2.2.2) (C := RX0) (T := TX0) (N := 6) hx hb hts hin0 hown hK hP 0 rfl rfl 5 (by decide) (hw w_f_X0_30) (fun _ h9 => h9) rfl dX0_ofOne_99 ?_
          refine lv_icmp_ne (tgt := 109) hx hb dX0_ofOne_102 (by decide) (fun g10 => ?_) (fun g10 => ?_)
          · have ht := (if_neg g10).symm.trans ht
            refine lv_iconst (v := (0 : Int32)) hx hb dX0_ofOne_109 (by decide) ?_
            exact K110 _ _ _ u (0 : Int32) (a2 - (1 : Int32)) hP hD hS (lv_sub hl [0] rfl) ht
          · have ht := (if_pos g10).symm.trans ht
            refine lv_iconst (v := (1 : Int32)) hx hb dX0_ofOne_105 (by decide) ?_
            refine lv_goto (tgt := 110) hx hb dX0_ofOne_106 (by decide) ?_
            exact K110 _ _ _ u (1 : Int32) (a2 - (1 : Int32)) hP hD hS (lv_sub hl [0] rfl) ht
        · have ht := (if_neg g9).symm.trans ht
          by_cases g11 : a1 = (44 : Int32)
          · have ht := (if_pos g11).symm.trans ht
            refine lv_tableIn (off := 117) (tgt := 118) hx hb dX0_ofOne_1 (by rw [g11]; decide) (by rw [g11]; decide) (by rw [g11]; rfl) (by decide) ?_
            refine lv_aload_n hx hb dX0_ofOne_118 rfl (lv_at hl 0 rfl) ?_
            refine lv_iload_n hx hb dX0_ofOne_119 rfl (lv_at hl 2 rfl) ?_
            refine lv_ineg hx hb dX0_ofOne_120 ?_
            refine lv_iload_n hx hb dX0_ofOne_121 rfl (lv_at hl 2 rfl) ?_
            refine lv_aload_n hx hb dX0_ofOne_122 rfl (lv_at hl 0 rfl) ?_
            refine va_get (D := D) (ci := 0) (v := .int u.2.2.2.2.2) (C := RX0) (T := TX0) (N := 6) hx hb hts hin0 hown hK hP 0 rfl rfl 5 (by decide) (hw w_f_X0_30) (fun _ h9 => h9) rfl dX0_ofOne_123 ?_
            refine lv_icmp_ne (tgt := 133) hx hb dX0_ofOne_126 (by decide) (fun g12 => ?_) (fun g12 => ?_)
            · have ht := (if_neg g12).symm.trans ht
              refine lv_iconst (v := (0 : Int32)) hx hb dX0_ofOne_133 (by decide) ?_
              exact K134 _ _ _ u a2 (0 : Int32) (-a2) hP hD hS (lv_sub hl [2] rfl) ht
            · have ht := (if_pos g12).symm.trans ht
              refine lv_iconst (v := (1 : Int32)) hx hb dX0_ofOne_129 (by decide) ?_
              refine lv_goto (tgt := 134) hx hb dX0_ofOne_130 (by decide) ?_
              exact K134 _ _ _ u a2 (1 : Int32) (-a2) hP hD hS (lv_sub hl [2] rfl) ht
          · have ht := (if_neg g11).symm.trans ht
            by_cases g13 : a1 = (45 : Int32)
            · have ht := (if_pos g13).symm.trans ht
              refine lv_tableIn (off := 146) (tgt := 147) hx hb dX0_ofOne_1 (by rw [g13]; decide) (by rw [g13]; decide) (by rw [g13]; rfl) (by decide) ?_
              refine lv_aload_n hx hb dX0_ofOne_147 rfl (lv_at hl 0 rfl) ?_
              refine va_get (D := D) (ci := 0) (v := .int u.2.2.2.1) (C := RX0) (T := TX0) (N := 6) hx hb hts hin0 hown hK hP 0 rfl rfl 3 (by decide) (hw w_f_X0_21) (fun _ h9 => h9) rfl dX0_ofOne_148 ?_
              refine lv_if_eq (tgt := 192) hx hb dX0_ofOne_151 (by decide) (fun g14 => ?_) (fun g14 => ?_)
              · have ht := (if_pos g14).symm.trans ht
                refine lv_aload_n hx hb dX0_ofOne_192 rfl (lv_at hl 0 rfl) ?_
                refine lv_iload_n hx hb dX0_ofOne_193 rfl (lv_at hl 2 rfl) ?_
                refine lv_iconst (v := (0 : Int32)) hx hb dX0_ofOne_194 (by decide) ?_
                refine lv_iconst (v := (0 : Int32)) hx hb dX0_ofOne_195 (by decide) ?_
                obtain ⟨r15, h16, ht⟩ := ob_some ht
                refine kG_i (cl := clW o) (u := u) (va_runV (As := [.int a2, .int (0 : Int32), .int (0 : Int32)]) (rest := []) ⟨hx, hb, hml, hown, hts⟩ (ctW_settled l D kI o H.size u a2 (0 : Int32) (0 : Int32) r15 h16) (cwV 3 hts (gV w_m_X0_44 w_im_yX0_settled w_sel_yX0_settled w_init_MicroMill_Work w_co_yX0_settled) rfl rfl rfl (by decide +kernel) ⟨Nat.le_trans (Nat.le_of_ble_eq_true rfl) hRf, Nat.le_trans (Nat.le_of_ble_eq_true rfl) hRl⟩) (preG (cl := clW o) (u := u) (N := 6) (ci := 0) hK hP (hD.weaken (fun _ _ _ _ => trivial)) rfl rfl _) rfl rfl hl.1 rfl (lv_room (Nat.le_of_ble_eq_true rfl)) dX0_ofOne_196 ⟨Nat.zero_le _, Nat.zero_le _⟩) hD hS hA (fun H locs hP hD hS => ?_)
                exact K199 _ _ _ r15.2 r15.1 hP hD hS (lv_sub hl [] rfl) ht
              · have ht := (if_neg g14).symm.trans ht
                refine lv_aload_n hx hb dX0_ofOne_154 rfl (lv_at hl 0 rfl) ?_
                refine lv_iload_n hx hb dX0_ofOne_155 rfl (lv_at hl 2 rfl) ?_
                refine lv_iconst (v := (1 : Int32)) hx hb dX0_ofOne_156 (by decide) ?_
                refine lv_iadd hx hb dX0_ofOne_157 ?_
                refine lv_iload_n hx hb dX0_ofOne_158 rfl (lv_at hl 2 rfl) ?_
                refine lv_iconst (v := (1 : Int32)) hx hb dX0_ofOne_159 (by decide) ?_
                refine lv_iadd hx hb dX0_ofOne_160 ?_
                refine lv_aload_n hx hb dX0_ofOne_161 rfl (lv_at hl 0 rfl) ?_
                refine va_get (D := D) (ci := 0) (v := .int u.2.2.2.2.2) (C := RX0) (T := TX0) (N := 6) hx hb hts hin0 hown hK hP 0 rfl rfl 5 (by decide) (hw w_f_X0_30) (fun _ h9 => h9) rfl dX0_ofOne_162 ?_
                refine lv_icmp_ne (tgt := 172) hx hb dX0_ofOne_165 (by decide) (fun g17 => ?_) (fun g17 => ?_)
                · have ht := (if_neg g17).symm.trans ht
                  refine lv_iconst (v := (0 : Int32)) hx hb dX0_ofOne_172 (by decide) ?_
                  exact K173 _ _ _ u a2 (0 : Int32) (a2 + (1 : Int32)) hP hD hS (lv_sub hl [0, 2] rfl) ht
                · have ht := (if_pos g17).symm.trans ht
                  refine lv_iconst (v := (1 : Int32)) hx hb dX0_ofOne_168 (by decide) ?_
                  refine lv_goto (tgt := 173) hx hb dX0_ofOne_169 (by decide) ?_
                  exact K173 _ _ _ u a2 (1 : Int32) (a2 + (1 : Int32)) hP hD hS (lv_sub hl [0, 2] rfl) ht
            · have ht := (if_neg g13).symm.trans ht
              by_cases g18 : a1 = (46 : Int32)
              · have ht := (if_pos g18).symm.trans ht
                refine lv_tableIn (off := 199) (tgt := 200) hx hb dX0_ofOne_1 (by rw [g18]; decide) (by rw [g18]; decide) (by rw [g18]; rfl) (by decide) ?_
                refine lv_aload_n hx hb dX0_ofOne_200 rfl (lv_at hl 0 rfl) ?_
                refine va_get (D := D) (ci := 0) (v := .int u.2.2.2.1) (C := RX0) (T := TX0) (N := 6) hx hb hts hin0 hown hK hP 0 rfl rfl 3 (by decide) (hw w_f_X0_21) (fun _ h9 => h9) rfl dX0_ofOne_201 ?_
                refine lv_if_eq (tgt := 239) hx hb dX0_ofOne_204 (by decide) (fun g19 => ?_) (fun g19 => ?_)
                · have ht := (if_pos g19).symm.trans ht
                  refine lv_aload_n hx hb dX0_ofOne_239 rfl (lv_at hl 0 rfl) ?_
                  refine lv_iload_n hx hb dX0_ofOne_240 rfl (lv_at hl 2 rfl) ?_
                  refine lv_iconst (v := (0 : Int32)) hx hb dX0_ofOne_241 (by decide) ?_
                  refine lv_iconst (v := (0 : Int32)) hx hb dX0_ofOne_242 (by decide) ?_
                  obtain ⟨r20, h21, ht⟩ := ob_some ht
                  refine kG_i (cl := clW o) (u := u) (va_runV (As := [.int a2, .int (0 : Int32), .int (0 : Int32)]) (rest := []) ⟨hx, hb, hml, hown, hts⟩ (ctW_settled l D kI o H.size u a2 (0 : Int32) (0 : Int32) r20 h21) (cwV 3 hts (gV w_m_X0_44 w_im_yX0_settled w_sel_yX0_settled w_init_MicroMill_Work w_co_yX0_settled) rfl rfl rfl (by decide +kernel) ⟨Nat.le_trans (Nat.le_of_ble_eq_true rfl) hRf, Nat.le_trans (Nat.le_of_ble_eq_true rfl) hRl⟩) (preG (cl := clW o) (u := u) (N := 6) (ci := 0) hK hP (hD.weaken (fun _ _ _ _ => trivial)) rfl rfl _) rfl rfl hl.1 rfl (lv_room (Nat.le_of_ble_eq_true rfl)) dX0_ofOne_243 ⟨Nat.zero_le _, Nat.zero_le _⟩) hD hS hA (fun H locs hP hD hS => ?_)
                  exact K246 _ _ _ r20.2 r20.1 hP hD hS (lv_sub hl [] rfl) ht
                · have ht := (if_neg g19).symm.trans ht
                  refine lv_aload_n hx hb dX0_ofOne_207 rfl (lv_at hl 0 rfl) ?_
                  refine lv_iload_n hx hb dX0_ofOne_208 rfl (lv_at hl 2 rfl) ?_
                  refine lv_iconst (v := (1 : Int32)) hx hb dX0_ofOne_209 (by decide) ?_
                  refine lv_isub hx hb dX0_ofOne_210 ?_
                  refine lv_iload_n hx hb dX0_ofOne_211 rfl (lv_at hl 2 rfl) ?_
                  refine lv_aload_n hx hb dX0_ofOne_212 rfl (lv_at hl 0 rfl) ?_
                  refine va_get (D := D) (ci := 0) (v := .int u.2.2.2.2.2) (C := RX0) (T := TX0) (N := 6) hx hb hts hin0 hown hK hP 0 rfl rfl 5 (by decide) (hw w_f_X0_30) (fun _ h9 => h9) rfl dX0_ofOne_213 ?_
                  refine lv_icmp_ne (tgt := 223) hx hb dX0_ofOne_216 (by decide) (fun g22 => ?_) (fun g22 => ?_)
                  · have ht := (if_neg g22).symm.trans ht
                    refine lv_iconst (v := (0 : Int32)) hx hb dX0_ofOne_223 (by decide) ?_
                    exact K224 _ _ _ u a2 (0 : Int32) (a2 - (1 : Int32)) hP hD hS (lv_sub hl [2] rfl) ht
                  · have ht := (if_pos g22).symm.trans ht
                    refine lv_iconst (v := (1 : Int32)) hx hb dX0_ofOne_219 (by decide) ?_
                    refine lv_goto (tgt := 224) hx hb dX0_ofOne_220 (by decide) ?_
                    exact K224 _ _ _ u a2 (1 : Int32) (a2 - (1 : Int32)) hP hD hS (lv_sub hl [2] rfl) ht
              · have ht := (if_neg g18).symm.trans ht
                by_cases g23 : a1 = (47 : Int32)
                · have ht := (if_pos g23).symm.trans ht
                  refine lv_tableIn (off := 246) (tgt := 247) hx hb dX0_ofOne_1 (by rw [g23]; decide) (by rw [g23]; decide) (by rw [g23]; rfl) (by decide) ?_
                  refine lv_aload_n hx hb dX0_ofOne_247 rfl (lv_at hl 0 rfl) ?_
                  refine lv_iload_n hx hb dX0_ofOne_248 rfl (lv_at hl 2 rfl) ?_
                  refine lv_iconst (v := (0 : Int32)) hx hb dX0_ofOne_249 (by decide) ?_
                  refine lv_iconst (v := (0 : Int32)) hx hb dX0_ofOne_250 (by decide) ?_
                  obtain ⟨r24, h25, ht⟩ := ob_some ht
                  refine kG_i (cl := clW o) (u := u) (va_runV (As := [.int a2, .int (0 : Int32), .int (0 : Int32)]) (rest := []) ⟨hx, hb, hml, hown, hts⟩ (ctW_settled l D kI o H.size u a2 (0 : Int32) (0 : Int32) r24 h25) (cwV 3 hts (gV w_m_X0_44 w_im_yX0_settled w_sel_yX0_settled w_init_MicroMill_Work w_co_yX0_settled) rfl rfl rfl (by decide +kernel) ⟨Nat.le_trans (Nat.le_of_ble_eq_true rfl) hRf, Nat.le_trans (Nat.le_of_ble_eq_true rfl) hRl⟩) (preG (cl := clW o) (u := u) (N := 6) (ci := 0) hK hP (hD.weaken (fun _ _ _ _ => trivial)) rfl rfl _) rfl rfl hl.1 rfl (lv_room (Nat.le_of_ble_eq_true rfl)) dX0_ofOne_251 ⟨Nat.zero_le _, Nat.zero_le _⟩) hD hS hA (fun H locs hP hD hS => ?_)
                  have e9 := Option.some.inj ht
                  subst hQ
                  exact W.iret (v := r24.1) hx hb hr (fun t ht9 hW => ⟨⟨r24.1, r24.2, rfl, ⟨pr1 e9, pr2 e9⟩, ⟨by rw [ht9]; exact hP, va_K.moved hW.alike hK, hD⟩⟩, hS.F ht9⟩) hS.2.2 dX0_ofOne_254
                · have ht := (if_neg g23).symm.trans ht
                  have ig1 := ne_toInt (a := 40) g1 (by decide)
                  have ig4 := ne_toInt (a := 41) g4 (by decide)
                  have ig7 := ne_toInt (a := 42) g7 (by decide)
                  have ig9 := ne_toInt (a := 43) g9 (by decide)
                  have ig11 := ne_toInt (a := 44) g11 (by decide)
                  have ig13 := ne_toInt (a := 45) g13 (by decide)
                  have ig18 := ne_toInt (a := 46) g18 (by decide)
                  have ig23 := ne_toInt (a := 47) g23 (by decide)
                  refine lv_tableOut (tgt := 255) hx hb dX0_ofOne_1 (by omega) (by decide) ?_
                  refine lv_aload_n hx hb dX0_ofOne_255 rfl (lv_at hl 0 rfl) ?_
                  refine lv_iload_n hx hb dX0_ofOne_256 rfl (lv_at hl 2 rfl) ?_
                  obtain ⟨r26, h27, ht⟩ := ob_some ht
                  refine kG_i (cl := clW o) (u := u) (va_runV (As := [.int a2]) (rest := []) ⟨hx, hb, hml, hown, hts⟩ (ctW_swapped l D kI o H.size u a2 r26 h27) (cwV 1 hts (gV w_m_X0_48 w_im_yX0_swapped w_sel_yX0_swapped w_init_MicroMill_Work w_co_yX0_swapped) rfl rfl rfl (by decide +kernel) ⟨Nat.le_trans (Nat.le_of_ble_eq_true rfl) hRf, Nat.le_trans (Nat.le_of_ble_eq_true rfl) hRl⟩) (preG (cl := clW o) (u := u) (N := 6) (ci := 0) hK hP (hD.weaken (fun _ _ _ _ => trivial)) rfl rfl _) rfl rfl hl.1 rfl (lv_room (Nat.le_of_ble_eq_true rfl)) dX0_ofOne_257 ⟨Nat.zero_le _, Nat.zero_le _⟩) hD hS hA (fun H locs hP hD hS => ?_)
                  have e9 := Option.some.inj ht
                  subst hQ
                  exact W.iret (v := r26.1) hx hb hr (fun t ht9 hW => ⟨⟨r26.1, r26.2, rfl, ⟨pr1 e9, pr2 e9⟩, ⟨by rw [ht9]; exact hP, va_K.moved hW.alike hK, hD⟩⟩, hS.F ht9⟩) hS.2.2 dX0_ofOne_260
def fnW_shifted_27 (u : sW) (x2 : Int32) (y0 : Int32) (y1 : Int32) : Option (Int32 × sW) := (fnW_settled u y1 y0 x2).bind (fun r3 => some (r3.1, r3.2))
def fnW_shifted_14 (u : sW) (x1 : Int32) (x2 : Int32) (y0 : Int32) : Option (Int32 × sW) := if y0 = x2 then (fnW_shifted_27 u x2 (0 : Int32) x1) else (fnW_shifted_27 u x2 (1 : Int32) x1)
def fnW_shifted (u : sW) (a1 : Int32) (a2 : Int32) : Option (Int32 × sW) := if (a1 &&& u.2.2.2.2.2) = 0 then (fnW_shifted_14 u a1 a2 (0 : Int32)) else (fnW_shifted_14 u a1 a2 (1 : Int32))
set_option maxRecDepth 100000 in
set_option maxHeartbeats 4000000 in
theorem ctW_shifted (l : Launch) (D : va_G) (kI : ClassId) (o : Nat) (sz : Nat) (u : sW) (a1 : Int32) (a2 : Int32) (tg : Int32 × sW) (ht : fnW_shifted u a1 a2 = some tg) : Met l yX0_shifted (Cond.code yX0_shifted cX0_shifted 4 (some .int) :: wAll) ({ frames := 1, cells := 0, slots := 0, locals := 24 } : Room) (va_Pc [.ref o, .int a1, .int a2] (prG D kI (clW o) sz u)) (va_Qi (fun (x : Int32) (v : sW) => x = tg.1 ∧ v = tg.2) (poG D kI (clW o) (va_A (clW o u) sz)) (va_A (clW o u) sz)) 0 0 (va_A (clW o u) sz) := by
  refine mOfW (cc := cX0_shifted) (maxL := 4) (ret := (some .int)) (by decide) rfl ?_
  intro p e s m args below meth c s₁ Q R hQ hR B hml hv
  obtain ⟨rfl, hsz, hP, hK, hD0⟩ := hv
  have hx := B.exec
  have hb := B.bytes
  have hr := B.returns
  have hts := atoms_spec (ws := Cond.code yX0_shifted cX0_shifted 4 (some .int) :: wAll) B.pre
  have hw : ∀ {w : Cond}, w ∈ wAll → w.before _ s = true := fun {w} h => hts w (List.mem_cons_of_mem _ h)
  have hown : s.vm.findClass RX0 = some m.cls := findClass_of_methodNamed B.named
  have hlocks := B.notSynchronized
  have hRf : 1 ≤ R.frames := by rw [hR]; exact Nat.le_refl _
  have hRl : 24 ≤ R.locals := by rw [hR]; exact Nat.le_refl _
  subst hsz
  have hD := hD0.self (sz := s.heap.size)
  generalize hAe : va_A (clW o u) s.heap.size = A at hD  hQ
  have hA : ∀ q : Nat, s.heap.size ≤ q → A q := fun q h => by rw [← hAe]; exact Or.inr h
  have hl := lv_entry ([.ref o, .int a1, .int a2]) (n := 4) (Nat.le_of_ble_eq_true rfl)
  rw [lg_entry_eq]
  generalize (lg_sl ([.ref o, .int a1, .int a2]) ++ List.replicate (4 - (lg_sl ([.ref o, .int a1, .int a2])).length) Slot.unset).toArray = ls at hl ⊢
  have hl : lv_has ls 4 [(0, .ref o), (1, .int a1), (2, .int a2)] := hl
  have hin0 : ∀ w ∈ u_ws RX0 TX0 6, w ∈ (Cond.code yX0_shifted cX0_shifted 4 (some .int) :: wAll) := fun w h => List.mem_cons_of_mem _ (w_flX0 w h)
  have K27 : ∀ (H : Heap) (locs : List Loc) (ls : Array Slot) (u : sW) (x2 : Int32) (y0 : Int32) (y1 : Int32) , va_P D vwCl (clW o u) H → va_D A (clW o u) → va_S A s.heap H locs → lv_has ls 4 [(2, .int x2)] → fnW_shifted_27 u x2 y0 y1 = some tg → W p l e R s m ([.ref o, .int a1, .int a2] : List Value).toArray below meth c H locs 0 0 Q (F0 m 27 ls [.int y0, .int y1, .ref o]) := by
    intro H locs ls u x2 y0 y1 hP hD hS hl ht
    unfold fnW_shifted_27 at ht
    refine lv_iload_n hx hb dX0_shifted_27 rfl (lv_at hl 0 rfl) ?_
    obtain ⟨r3, h4, ht⟩ := ob_some ht
    refine kG_i (cl := clW o) (u := u) (va_runV (As := [.int y1, .int y0, .int x2]) (rest := []) ⟨hx, hb, hml, hown, hts⟩ (ctW_settled l D kI o H.size u y1 y0 x2 r3 h4) (cwV 3 hts (gV w_m_X0_44 w_im_yX0_settled w_sel_yX0_settled w_init_MicroMill_Work w_co_yX0_settled) rfl rfl rfl (by decide +kernel) ⟨Nat.le_trans (Nat.le_of_ble_eq_true rfl) hRf, Nat.le_trans (Nat.le_of_ble_eq_true rfl) hRl⟩) (preG (cl := clW o) (u := u) (N := 6) (ci := 0) hK hP (hD.weaken (fun _ _ _ _ => trivial)) rfl rfl _) rfl rfl hl.1 rfl (lv_room (Nat.le_of_ble_eq_true rfl)) dX0_shifted_28 ⟨Nat.zero_le _, Nat.zero_le _⟩) hD hS hA (fun H locs hP hD hS => ?_)
    have e9 := Option.some.inj ht
    subst hQ
    exact W.iret (v := r3.1) hx hb hr (fun t ht9 hW => ⟨⟨r3.1, r3.2, rfl, ⟨pr1 e9, pr2 e9⟩, ⟨by rw [ht9]; exact hP, va_K.moved hW.alike hK, hD⟩⟩, hS.F ht9⟩) hS.2.2 dX0_shifted_31
  have K14 : ∀ (H : Heap) (locs : List Loc) (ls : Array Slot) (u : sW) (x1 : Int32) (x2 : Int32) (y0 : Int32) , va_P D vwCl (clW o u) H → va_D A (clW o u) → va_S A s.heap H locs → lv_has ls 4 [(0, .ref o), (1, .int x1), (2, .int x2)] → fnW_shifted_14 u x1 x2 y0 = some tg → W p l e R s m ([.ref o, .int a1, .int a2] : List Value).toArray below meth c H locs 0 0 Q (F0 m 14 ls [.int y0]) := by
    intro H locs ls u x1 x2 y0 hP hD hS hl ht
    unfold fnW_shifted_14 at ht
    refine lv_istore_n (lv' := [(3, .int y0), (0, .ref o), (1, .int x1), (2, .int x2)]) hx hb dX0_shifted_14 rfl hl (by decide) rfl (fun ls hl => ?_)
    refine lv_aload_n hx hb dX0_shifted_15 rfl (lv_at hl 1 rfl) ?_
    refine lv_iload_n hx hb dX0_shifted_16 rfl (lv_at hl 2 rfl) ?_
    refine lv_iload_n hx hb dX0_shifted_17 rfl (lv_at hl 0 rfl) ?_
    refine lv_iload_n hx hb dX0_shifted_18 rfl (lv_at hl 3 rfl) ?_
    refine lv_icmp_eq (tgt := 26) hx hb dX0_shifted_19 (by decide) (fun g2 => ?_) (fun g2 => ?_)
    · have ht := (if_pos g2).symm.trans ht
      refine lv_iconst (v := (0 : Int32)) hx hb dX0_shifted_26 (by decide) ?_
      exact K27 _ _ _ u x2 (0 : Int32) x1 hP hD hS (lv_sub hl [3] rfl) ht
    · have ht := (if_neg g2).symm.trans ht
      refine lv_iconst (v := (1 : Int32)) hx hb dX0_shifted_22 (by decide) ?_
      refine lv_goto (tgt := 27) hx hb dX0_shifted_23 (by decide) ?_
      exact K27 _ _ _ u x2 (1 : Int32) x1 hP hD hS (lv_sub hl [3] rfl) ht
  unfold fnW_shifted at ht
  obtain ⟨H, hHe⟩ : ∃ H : Heap, H = s.heap := ⟨_, rfl⟩
  have hP : va_P D vwCl (clW o u) H := by rw [hHe]; exact hP
  have hS : va_S A s.heap H [] := by rw [hHe]; exact va_S.rf
  rw [← hHe]
  refine lv_iload_n hx hb dX0_shifted_0 rfl (lv_at hl 1 rfl) ?_
  refine lv_aload_n hx hb dX0_shifted_1 rfl (lv_at hl 0 rfl) ?_
  refine va_get (D := D) (ci := 0) (v := .int u.2.2.2.2.2) (C := RX0) (T := TX0) (N := 6) hx hb hts hin0 hown hK hP 0 rfl rfl 5 (by decide) (hw w_f_X0_30) (fun _ h9 => h9) rfl dX0_shifted_2 ?_
  refine lv_iand hx hb dX0_shifted_5 ?_
  refine lv_if_eq (tgt := 13) hx hb dX0_shifted_6 (by decide) (fun g1 => ?_) (fun g1 => ?_)
  · have ht := (if_pos g1).symm.trans ht
    refine lv_iconst (v := (0 : Int32)) hx hb dX0_shifted_13 (by decide) ?_
    exact K14 _ _ _ u a1 a2 (0 : Int32) hP hD hS (lv_sub hl [0, 1, 2] rfl) ht
  · have ht := (if_neg g1).symm.trans ht
    refine lv_iconst (v := (1 : Int32)) hx hb dX0_shifted_9 (by decide) ?_
    refine lv_goto (tgt := 14) hx hb dX0_shifted_10 (by decide) ?_
    exact K14 _ _ _ u a1 a2 (1 : Int32) hP hD hS (lv_sub hl [0, 1, 2] rfl) ht
def fnW_ofShift_97 (u : sW) (x4 : Int32) (y0 : Int32) (y1 : Int32) : Option (Int32 × sW) := (fnW_shifted u (y1 ||| y0) x4).bind (fun r14 => some (r14.1, r14.2))
def fnW_ofShift_75 (u : sW) (x3 : Int32) (y0 : Int32) (y1 : Int32) : Option (Int32 × sW) := (fnW_shifted u (y1 ||| y0) x3).bind (fun r12 => some (r12.1, r12.2))
def fnW_ofShift_26 (u : sW) (x1 : Int32) (x2 : Int32) (x3 : Int32) (y0 : Int32) : Option (Int32 × sW) := if x1 = (48 : Int32) then (if u.2.2.2.1 = 0 then (fnW_ofShift_75 u x3 (0 : Int32) (x2 >>> ((1 : Int32) &&& 31))) else (fnW_ofShift_75 u x3 u.2.2.2.2.2 (x2 >>> ((1 : Int32) &&& 31)))) else (if x1 = (49 : Int32) then (if u.2.2.2.1 = 0 then (fnW_ofShift_97 u y0 (0 : Int32) (x2 <<< ((1 : Int32) &&& 31))) else (fnW_ofShift_97 u y0 (1 : Int32) (x2 <<< ((1 : Int32) &&& 31)))) else (if x1 = (50 : Int32) then ((fnW_shifted u ((x2 >>> ((1 : Int32) &&& 31)) ||| (x2 &&& u.2.2.2.2.2)) x3).bind (fun r8 => some (r8.1, r8.2))) else ((fnW_shifted u (x2 <<< ((1 : Int32) &&& 31)) y0).bind (fun r10 => some (r10.1, r10.2)))))
def fnW_ofShift_11 (u : sW) (x1 : Int32) (x2 : Int32) (y0 : Int32) : Option (Int32 × sW) := if (x2 &&& u.2.2.2.2.2) = 0 then (fnW_ofShift_26 u x1 x2 y0 (0 : Int32)) else (fnW_ofShift_26 u x1 x2 y0 (1 : Int32))
def fnW_ofShift (u : sW) (a1 : Int32) (a2 : Int32) : Option (Int32 × sW) := if (a2 &&& (1 : Int32)) = 0 then (fnW_ofShift_11 u a1 a2 (0 : Int32)) else (fnW_ofShift_11 u a1 a2 (1 : Int32))
set_option maxRecDepth 100000 in
set_option maxHeartbeats 4000000 in
theorem ctW_ofShift (l : Launch) (D : va_G) (kI : ClassId) (o : Nat) (sz : Nat) (u : sW) (a1 : Int32) (a2 : Int32) (tg : Int32 × sW) (ht : fnW_ofShift u a1 a2 = some tg) : Met l yX0_ofShift (Cond.code yX0_ofShift cX0_ofShift 5 (some .int) :: wAll) ({ frames := 2, cells := 0, slots := 0, locals := 47 } : Room) (va_Pc [.ref o, .int a1, .int a2] (prG D kI (clW o) sz u)) (va_Qi (fun (x : Int32) (v : sW) => x = tg.1 ∧ v = tg.2) (poG D kI (clW o) (va_A (clW o u) sz)) (va_A (clW o u) sz)) 0 0 (va_A (clW o u) sz) := by
  refine mOfW (cc := cX0_ofShift) (maxL := 5) (ret := (some .int)) (by decide) rfl ?_
  intro p e s m args below meth c s₁ Q R hQ hR B hml hv
  obtain ⟨rfl, hsz, hP, hK, hD0⟩ := hv
  have hx := B.exec
  have hb := B.bytes
  have hr := B.returns
  have hts := atoms_spec (ws := Cond.code yX0_ofShift cX0_ofShift 5 (some .int) :: wAll) B.pre
  have hw : ∀ {w : Cond}, w ∈ wAll → w.before _ s = true := fun {w} h => hts w (List.mem_cons_of_mem _ h)
  have hown : s.vm.findClass RX0 = some m.cls := findClass_of_methodNamed B.named
  have hlocks := B.notSynchronized
  have hRf : 2 ≤ R.frames := by rw [hR]; exact Nat.le_refl _
  have hRl : 47 ≤ R.locals := by rw [hR]; exact Nat.le_refl _
  subst hsz
  have hD := hD0.self (sz := s.heap.size)
  generalize hAe : va_A (clW o u) s.heap.size = A at hD  hQ
  have hA : ∀ q : Nat, s.heap.size ≤ q → A q := fun q h => by rw [← hAe]; exact Or.inr h
  have hl := lv_entry ([.ref o, .int a1, .int a2]) (n := 5) (Nat.le_of_ble_eq_true rfl)
  rw [lg_entry_eq]
  generalize (lg_sl ([.ref o, .int a1, .int a2]) ++ List.replicate (5 - (lg_sl ([.ref o, .int a1, .int a2])).length) Slot.unset).toArray = ls at hl ⊢
  have hl : lv_has ls 5 [(0, .ref o), (1, .int a1), (2, .int a2)] := hl
  have hin0 : ∀ w ∈ u_ws RX0 TX0 6, w ∈ (Cond.code yX0_ofShift cX0_ofShift 5 (some .int) :: wAll) := fun w h => List.mem_cons_of_mem _ (w_flX0 w h)
  have K97 : ∀ (H : Heap) (locs : List Loc) (ls : Array Slot) (u : sW) (x4 : Int32) (y0 : Int32) (y1 : Int32) , va_P D vwCl (clW o u) H → va_D A (clW o u) → va_S A s.heap H locs → lv_has ls 5 [(4, .int x4)] → fnW_ofShift_97 u x4 y0 y1 = some tg → W p l e R s m ([.ref o, .int a1, .int a2] : List Value).toArray below meth c H locs 0 0 Q (F0 m 97 ls [.int y0, .int y1, .ref o]) := by
    intro H locs ls u x4 y0 y1 hP hD hS hl ht
    unfold fnW_ofShift_97 at ht
    refine lv_ior hx hb dX0_ofShift_97 ?_
    refine lv_iload hx hb dX0_ofShift_98 (lv_at hl 0 rfl) ?_
    obtain ⟨r14, h15, ht⟩ := ob_some ht
    refine kG_i (cl := clW o) (u := u) (va_runV (As := [.int (y1 ||| y0), .int x4]) (rest := []) ⟨hx, hb, hml, hown, hts⟩ (ctW_shifted l D kI o H.size u (y1 ||| y0) x4 r14 h15) (cwV 2 hts (gV w_m_X0_51 w_im_yX0_shifted w_sel_yX0_shifted w_init_MicroMill_Work w_co_yX0_shifted) rfl rfl rfl (by decide +kernel) ⟨Nat.le_trans (Nat.le_of_ble_eq_true rfl) hRf, Nat.le_trans (Nat.le_of_ble_eq_true rfl) hRl⟩) (preG (cl := clW o) (u := u) (N := 6) (ci := 0) hK hP (hD.weaken (fun _ _ _ _ => trivial)) rfl rfl _) rfl rfl hl.1 rfl (lv_room (Nat.le_of_ble_eq_true rfl)) dX0_ofShift_100 ⟨Nat.zero_le _, Nat.zero_le _⟩) hD hS hA (fun H locs hP hD hS => ?_)
    have e9 := Option.some.inj ht
    subst hQ
    exact W.iret (v := r14.1) hx hb hr (fun t ht9 hW => ⟨⟨r14.1, r14.2, rfl, ⟨pr1 e9, pr2 e9⟩, ⟨by rw [ht9]; exact hP, va_K.moved hW.alike hK, hD⟩⟩, hS.F ht9⟩) hS.2.2 dX0_ofShift_103
  have K75 : ∀ (H : Heap) (locs : List Loc) (ls : Array Slot) (u : sW) (x3 : Int32) (y0 : Int32) (y1 : Int32) , va_P D vwCl (clW o u) H → va_D A (clW o u) → va_S A s.heap H locs → lv_has ls 5 [(3, .int x3)] → fnW_ofShift_75 u x3 y0 y1 = some tg → W p l e R s m ([.ref o, .int a1, .int a2] : List Value).toArray below meth c H locs 0 0 Q (F0 m 75 ls [.int y0, .int y1, .ref o]) := by
    intro H locs ls u x3 y0 y1 hP hD hS hl ht
    unfold fnW_ofShift_75 at ht
    refine lv_ior hx hb dX0_ofShift_75 ?_
    refine lv_iload_n hx hb dX0_ofShift_76 rfl (lv_at hl 0 rfl) ?_
    obtain ⟨r12, h13, ht⟩ := ob_some ht
    refine kG_i (cl := clW o) (u := u) (va_runV (As := [.int (y1 ||| y0), .int x3]) (rest := []) ⟨hx, hb, hml, hown, hts⟩ (ctW_shifted l D kI o H.size u (y1 ||| y0) x3 r12 h13) (cwV 2 hts (gV w_m_X0_51 w_im_yX0_shifted w_sel_yX0_shifted w_init_MicroMill_Work w_co_yX0_shifted) rfl rfl rfl (by decide +kernel) ⟨Nat.le_trans (Nat.le_of_ble_eq_true rfl) hRf, Nat.le_trans (Nat.le_of_ble_eq_true rfl) hRl⟩) (preG (cl := clW o) (u := u) (N := 6) (ci := 0) hK hP (hD.weaken (fun _ _ _ _ => trivial)) rfl rfl _) rfl rfl hl.1 rfl (lv_room (Nat.le_of_ble_eq_true rfl)) dX0_ofShift_77 ⟨Nat.zero_le _, Nat.zero_le _⟩) hD hS hA (fun H locs hP hD hS => ?_)
    have e9 := Option.some.inj ht
    subst hQ
    exact W.iret (v := r12.1) hx hb hr (fun t ht9 hW => ⟨⟨r12.1, r12.2, rfl, ⟨pr1 e9, pr2 e9⟩, ⟨by rw [ht9]; exact hP, va_K.moved hW.alike hK, hD⟩⟩, hS.F ht9⟩) hS.2.2 dX0_ofShift_80
  have K26 : ∀ (H : Heap) (locs : List Loc) (ls : Array Slot) (u : sW) (x1 : Int32) (x2 : Int32) (x3 : Int32) (y0 : Int32) , va_P D vwCl (clW o u) H → va_D A (clW o u) → va_S A s.heap H locs → lv_has ls 5 [(0, .ref o), (1, .int x1), (2, .int x2), (3, .int x3)] → fnW_ofShift_26 u x1 x2 x3 y0 = some tg → W p l e R s m ([.ref o, .int a1, .int a2] : List Value).toArray below meth c H locs 0 0 Q (F0 m 26 ls [.int y0]) := by
    intro H locs ls u x1 x2 x3 y0 hP hD hS hl ht
    unfold fnW_ofShift_26 at ht
    refine lv_istore (lv' := [(4, .int y0), (0, .ref o), (1, .int x1), (2, .int x2), (3, .int x3)]) hx hb dX0_ofShift_26 hl (by decide) rfl (fun ls hl => ?_)
    refine lv_iload_n hx hb dX0_ofShift_28 rfl (lv_at hl 2 rfl) ?_
    by_cases g3 : x1 = (48 : Int32)
    · have ht := (if_pos g3).symm.trans ht
      refine lv_tableIn (off := 27) (tgt := 56) hx hb dX0_ofShift_29 (by rw [g3]; decide) (by rw [g3]; decide) (by rw [g3]; rfl) (by decide) ?_
      refine lv_aload_n hx hb dX0_ofShift_56 rfl (lv_at hl 1 rfl) ?_
      refine lv_iload_n hx hb dX0_ofShift_57 rfl (lv_at hl 3 rfl) ?_
      refine lv_iconst (v := (1 : Int32)) hx hb dX0_ofShift_58 (by decide) ?_
      refine lv_ishr hx hb dX0_ofShift_59 ?_
      refine lv_aload_n hx hb dX0_ofShift_60 rfl (lv_at hl 1 rfl) ?_
      refine va_get (D := D) (ci := 0) (v := .int u.2.2.2.1) (C := RX0) (T := TX0) (N := 6) hx hb hts hin0 hown hK hP 0 rfl rfl 3 (by decide) (hw w_f_X0_21) (fun _ h9 => h9) rfl dX0_ofShift_61 ?_
      refine lv_if_eq (tgt := 74) hx hb dX0_ofShift_64 (by decide) (fun g4 => ?_) (fun g4 => ?_)
      · have ht := (if_pos g4).symm.trans ht
        refine lv_iconst (v := (0 : Int32)) hx hb dX0_ofShift_74 (by decide) ?_
        exact K75 _ _ _ u x3 (0 : Int32) (x2 >>> ((1 : Int32) &&& 31)) hP hD hS (lv_sub hl [4] rfl) ht
      · have ht := (if_neg g4).symm.trans ht
        refine lv_aload_n hx hb dX0_ofShift_67 rfl (lv_at hl 1 rfl) ?_
        refine va_get (D := D) (ci := 0) (v := .int u.2.2.2.2.2) (C := RX0) (T := TX0) (N := 6) hx hb hts hin0 hown hK hP 0 rfl rfl 5 (by decide) (hw w_f_X0_30) (fun _ h9 => h9) rfl dX0_ofShift_68 ?_
        refine lv_goto (tgt := 75) hx hb dX0_ofShift_71 (by decide) ?_
        exact K75 _ _ _ u x3 u.2.2.2.2.2 (x2 >>> ((1 : Int32) &&& 31)) hP hD hS (lv_sub hl [4] rfl) ht
    · have ht := (if_neg g3).symm.trans ht
      by_cases g5 : x1 = (49 : Int32)
      · have ht := (if_pos g5).symm.trans ht
        refine lv_tableIn (off := 52) (tgt := 81) hx hb dX0_ofShift_29 (by rw [g5]; decide) (by rw [g5]; decide) (by rw [g5]; rfl) (by decide) ?_
        refine lv_aload_n hx hb dX0_ofShift_81 rfl (lv_at hl 1 rfl) ?_
        refine lv_iload_n hx hb dX0_ofShift_82 rfl (lv_at hl 3 rfl) ?_
        refine lv_iconst (v := (1 : Int32)) hx hb dX0_ofShift_83 (by decide) ?_
        refine lv_ishl hx hb dX0_ofShift_84 ?_
        refine lv_aload_n hx hb dX0_ofShift_85 rfl (lv_at hl 1 rfl) ?_
        refine va_get (D := D) (ci := 0) (v := .int u.2.2.2.1) (C := RX0) (T := TX0) (N := 6) hx hb hts hin0 hown hK hP 0 rfl rfl 3 (by decide) (hw w_f_X0_21) (fun _ h9 => h9) rfl dX0_ofShift_86 ?_
        refine lv_if_eq (tgt := 96) hx hb dX0_ofShift_89 (by decide) (fun g6 => ?_) (fun g6 => ?_)
        · have ht := (if_pos g6).symm.trans ht
          refine lv_iconst (v := (0 : Int32)) hx hb dX0_ofShift_96 (by decide) ?_
          exact K97 _ _ _ u y0 (0 : Int32) (x2 <<< ((1 : Int32) &&& 31)) hP hD hS (lv_sub hl [0] rfl) ht
        · have ht := (if_neg g6).symm.trans ht
          refine lv_iconst (v := (1 : Int32)) hx hb dX0_ofShift_92 (by decide) ?_
          refine lv_goto (tgt := 97) hx hb dX0_ofShift_93 (by decide) ?_
          exact K97 _ _ _ u y0 (1 : Int32) (x2 <<< ((1 : Int32) &&& 31)) hP hD hS (lv_sub hl [0] rfl) ht
      · have ht := (if_neg g5).symm.trans ht
        by_cases g7 : x1 = (50 : Int32)
        · have ht := (if_pos g7).symm.trans ht
          refine lv_tableIn (off := 75) (tgt := 104) hx hb dX0_ofShift_29 (by rw [g7]; decide) (by rw [g7]; decide) (by rw [g7]; rfl) (by decide) ?_
          refine lv_aload_n hx hb dX0_ofShift_104 rfl (lv_at hl 1 rfl) ?_
          refine lv_iload_n hx hb dX0_ofShift_105 rfl (lv_at hl 3 rfl) ?_
          refine lv_iconst (v := (1 : Int32)) hx hb dX0_ofShift_106 (by decide) ?_
          refine lv_ishr hx hb dX0_ofShift_107 ?_
          refine lv_iload_n hx hb dX0_ofShift_108 rfl (lv_at hl 3 rfl) ?_
          refine lv_aload_n hx hb dX0_ofShift_109 rfl (lv_at hl 1 rfl) ?_
          refine va_get (D := D) (ci := 0) (v := .int u.2.2.2.2.2) (C := RX0) (T := TX0) (N := 6) hx hb hts hin0 hown hK hP 0 rfl rfl 5 (by decide) (hw w_f_X0_30) (fun _ h9 => h9) rfl dX0_ofShift_110 ?_
          refine lv_iand hx hb dX0_ofShift_113 ?_
          refine lv_ior hx hb dX0_ofShift_114 ?_
          refine lv_iload_n hx hb dX0_ofShift_115 rfl (lv_at hl 4 rfl) ?_
          obtain ⟨r8, h9, ht⟩ := ob_some ht
          refine kG_i (cl := clW o) (u := u) (va_runV (As := [.int ((x2 >>> ((1 : Int32) &&& 31)) ||| (x2 &&& u.2.2.2.2.2)), .int x3]) (rest := []) ⟨hx, hb, hml, hown, hts⟩ (ctW_shifted l D kI o H.size u ((x2 >>> ((1 : Int32) &&& 31)) ||| (x2 &&& u.2.2.2.2.2)) x3 r8 h9) (cwV 2 hts (gV w_m_X0_51 w_im_yX0_shifted w_sel_yX0_shifted w_init_MicroMill_Work w_co_yX0_shifted) rfl rfl rfl (by decide +kernel) ⟨Nat.le_trans (Nat.le_of_ble_eq_true rfl) hRf, Nat.le_trans (Nat.le_of_ble_eq_true rfl) hRl⟩) (preG (cl := clW o) (u := u) (N := 6) (ci := 0) hK hP (hD.weaken (fun _ _ _ _ => trivial)) rfl rfl _) rfl rfl hl.1 rfl (lv_room (Nat.le_of_ble_eq_true rfl)) dX0_ofShift_116 ⟨Nat.zero_le _, Nat.zero_le _⟩) hD hS hA (fun H locs hP hD hS => ?_)
          have e9 := Option.some.inj ht
          subst hQ
          exact W.iret (v := r8.1) hx hb hr (fun t ht9 hW => ⟨⟨r8.1, r8.2, rfl, ⟨pr1 e9, pr2 e9⟩, ⟨by rw [ht9]; exact hP, va_K.moved hW.alike hK, hD⟩⟩, hS.F ht9⟩) hS.2.2 dX0_ofShift_119
        · have ht := (if_neg g7).symm.trans ht
          have ig3 := ne_toInt (a := 48) g3 (by decide)
          have ig5 := ne_toInt (a := 49) g5 (by decide)
          have ig7 := ne_toInt (a := 50) g7 (by decide)
          refine lv_tableOut (tgt := 120) hx hb dX0_ofShift_29 (by omega) (by decide) ?_
          refine lv_aload_n hx hb dX0_ofShift_120 rfl (lv_at hl 1 rfl) ?_
          refine lv_iload_n hx hb dX0_ofShift_121 rfl (lv_at hl 3 rfl) ?_
          refine lv_iconst (v := (1 : Int32)) hx hb dX0_ofShift_122 (by decide) ?_
          refine lv_ishl hx hb dX0_ofShift_123 ?_
          refine lv_iload hx hb dX0_ofShift_124 (lv_at hl 0 rfl) ?_
          obtain ⟨r10, h11, ht⟩ := ob_some ht
          refine kG_i (cl := clW o) (u := u) (va_runV (As := [.int (x2 <<< ((1 : Int32) &&& 31)), .int y0]) (rest := []) ⟨hx, hb, hml, hown, hts⟩ (ctW_shifted l D kI o H.size u (x2 <<< ((1 : Int32) &&& 31)) y0 r10 h11) (cwV 2 hts (gV w_m_X0_51 w_im_yX0_shifted w_sel_yX0_shifted w_init_MicroMill_Work w_co_yX0_shifted) rfl rfl rfl (by decide +kernel) ⟨Nat.le_trans (Nat.le_of_ble_eq_true rfl) hRf, Nat.le_trans (Nat.le_of_ble_eq_true rfl) hRl⟩) (preG (cl := clW o) (u := u) (N := 6) (ci := 0) hK hP (hD.weaken (fun _ _ _ _ => trivial)) rfl rfl _) rfl rfl hl.1 rfl (lv_room (Nat.le_of_ble_eq_true rfl)) dX0_ofShift_126 ⟨Nat.zero_le _, Nat.zero_le _⟩) hD hS hA (fun H locs hP hD hS => ?_)
          have e9 := Option.some.inj ht
          subst hQ
          exact W.iret (v := r10.1) hx hb hr (fun t ht9 hW => ⟨⟨r10.1, r10.2, rfl, ⟨pr1 e9, pr2 e9⟩, ⟨by rw [ht9]; exact hP, va_K.moved hW.alike hK, hD⟩⟩, hS.F ht9⟩) hS.2.2 dX0_ofShift_129
  have K11 : ∀ (H : Heap) (locs : List Loc) (ls : Array Slot) (u : sW) (x1 : Int32) (x2 : Int32) (y0 : Int32) , va_P D vwCl (clW o u) H → va_D A (clW o u) → va_S A s.heap H locs → lv_has ls 5 [(0, .ref o), (1, .int x1), (2, .int x2)] → fnW_ofShift_11 u x1 x2 y0 = some tg → W p l e R s m ([.ref o, .int a1, .int a2] : List Value).toArray below meth c H locs 0 0 Q (F0 m 11 ls [.int y0]) := by
    intro H locs ls u x1 x2 y0 hP hD hS hl ht
    unfold fnW_ofShift_11 at ht
    refine lv_istore_n (lv' := [(3, .int y0), (0, .ref o), (1, .int x1), (2, .int x2)]) hx hb dX0_ofShift_11 rfl hl (by decide) rfl (fun ls hl => ?_)
    refine lv_iload_n hx hb dX0_ofShift_12 rfl (lv_at hl 3 rfl) ?_
    refine lv_aload_n hx hb dX0_ofShift_13 rfl (lv_at hl 1 rfl) ?_
    refine va_get (D := D) (ci := 0) (v := .int u.2.2.2.2.2) (C := RX0) (T := TX0) (N := 6) hx hb hts hin0 hown hK hP 0 rfl rfl 5 (by decide) (hw w_f_X0_30) (fun _ h9 => h9) rfl dX0_ofShift_14 ?_
    refine lv_iand hx hb dX0_ofShift_17 ?_
    refine lv_if_eq (tgt := 25) hx hb dX0_ofShift_18 (by decide) (fun g2 => ?_) (fun g2 => ?_)
    · have ht := (if_pos g2).symm.trans ht
      refine lv_iconst (v := (0 : Int32)) hx hb dX0_ofShift_25 (by decide) ?_
      exact K26 _ _ _ u x1 x2 y0 (0 : Int32) hP hD hS (lv_sub hl [1, 2, 3, 0] rfl) ht
    · have ht := (if_neg g2).symm.trans ht
      refine lv_iconst (v := (1 : Int32)) hx hb dX0_ofShift_21 (by decide) ?_
      refine lv_goto (tgt := 26) hx hb dX0_ofShift_22 (by decide) ?_
      exact K26 _ _ _ u x1 x2 y0 (1 : Int32) hP hD hS (lv_sub hl [1, 2, 3, 0] rfl) ht
  unfold fnW_ofShift at ht
  obtain ⟨H, hHe⟩ : ∃ H : Heap, H = s.heap := ⟨_, rfl⟩
  have hP : va_P D vwCl (clW o u) H := by rw [hHe]; exact hP
  have hS : va_S A s.heap H [] := by rw [hHe]; exact va_S.rf
  rw [← hHe]
  refine lv_iload_n hx hb dX0_ofShift_0 rfl (lv_at hl 2 rfl) ?_
  refine lv_iconst (v := (1 : Int32)) hx hb dX0_ofShift_1 (by decide) ?_
  refine lv_iand hx hb dX0_ofShift_2 ?_
  refine lv_if_eq (tgt := 10) hx hb dX0_ofShift_3 (by decide) (fun g1 => ?_) (fun g1 => ?_)
  · have ht := (if_pos g1).symm.trans ht
    refine lv_iconst (v := (0 : Int32)) hx hb dX0_ofShift_10 (by decide) ?_
    exact K11 _ _ _ u a1 a2 (0 : Int32) hP hD hS (lv_sub hl [0, 1, 2] rfl) ht
  · have ht := (if_neg g1).symm.trans ht
    refine lv_iconst (v := (1 : Int32)) hx hb dX0_ofShift_6 (by decide) ?_
    refine lv_goto (tgt := 11) hx hb dX0_ofShift_7 (by decide) ?_
    exact K11 _ _ _ u a1 a2 (1 : Int32) hP hD hS (lv_sub hl [0, 1, 2] rfl) ht
def fnW_sum_58 (u : sW) (y0 : Int32) (y1 : Int32) (y2 : Int32) : Option (Int32 × sW) := (fnW_settled u y2 y1 y0).bind (fun r4 => some (r4.1, r4.2))
def fnW_sum_39 (u : sW) (x3 : Int32) (y0 : Int32) : Option (Int32 × sW) := if x3 ≤ u.2.2.2.2.1 then (fnW_sum_58 u (0 : Int32) y0 x3) else (fnW_sum_58 u (1 : Int32) y0 x3)
def fnW_sum_38 (u : sW) (x3 : Int32) : Option (Int32 × sW) := fnW_sum_39 u x3 (0 : Int32)
def fnW_sum (u : sW) (a1 : Int32) (a2 : Int32) : Option (Int32 × sW) := if (a1 &&& u.2.2.2.2.2) = (a2 &&& u.2.2.2.2.2) then (if ((a1 + a2) &&& u.2.2.2.2.2) = (a1 &&& u.2.2.2.2.2) then (fnW_sum_38 u (a1 + a2)) else (fnW_sum_39 u (a1 + a2) (1 : Int32))) else (fnW_sum_38 u (a1 + a2))
set_option maxRecDepth 100000 in
set_option maxHeartbeats 4000000 in
theorem ctW_sum (l : Launch) (D : va_G) (kI : ClassId) (o : Nat) (sz : Nat) (u : sW) (a1 : Int32) (a2 : Int32) (tg : Int32 × sW) (ht : fnW_sum u a1 a2 = some tg) : Met l yX0_sum (Cond.code yX0_sum cX0_sum 5 (some .int) :: wAll) ({ frames := 1, cells := 0, slots := 0, locals := 24 } : Room) (va_Pc [.ref o, .int a1, .int a2] (prG D kI (clW o) sz u)) (va_Qi (fun (x : Int32) (v : sW) => x = tg.1 ∧ v = tg.2) (poG D kI (clW o) (va_A (clW o u) sz)) (va_A (clW o u) sz)) 0 0 (va_A (clW o u) sz) := by
  refine mOfW (cc := cX0_sum) (maxL := 5) (ret := (some .int)) (by decide) rfl ?_
  intro p e s m args below meth c s₁ Q R hQ hR B hml hv
  obtain ⟨rfl, hsz, hP, hK, hD0⟩ := hv
  have hx := B.exec
  have hb := B.bytes
  have hr := B.returns
  have hts := atoms_spec (ws := Cond.code yX0_sum cX0_sum 5 (some .int) :: wAll) B.pre
  have hw : ∀ {w : Cond}, w ∈ wAll → w.before _ s = true := fun {w} h => hts w (List.mem_cons_of_mem _ h)
  have hown : s.vm.findClass RX0 = some m.cls := findClass_of_methodNamed B.named
  have hlocks := B.notSynchronized
  have hRf : 1 ≤ R.frames := by rw [hR]; exact Nat.le_refl _
  have hRl : 24 ≤ R.locals := by rw [hR]; exact Nat.le_refl _
  subst hsz
  have hD := hD0.self (sz := s.heap.size)
  generalize hAe : va_A (clW o u) s.heap.size = A at hD  hQ
  have hA : ∀ q : Nat, s.heap.size ≤ q → A q := fun q h => by rw [← hAe]; exact Or.inr h
  have hl := lv_entry ([.ref o, .int a1, .int a2]) (n := 5) (Nat.le_of_ble_eq_true rfl)
  rw [lg_entry_eq]
  generalize (lg_sl ([.ref o, .int a1, .int a2]) ++ List.replicate (5 - (lg_sl ([.ref o, .int a1, .int a2])).length) Slot.unset).toArray = ls at hl ⊢
  have hl : lv_has ls 5 [(0, .ref o), (1, .int a1), (2, .int a2)] := hl
  have hin0 : ∀ w ∈ u_ws RX0 TX0 6, w ∈ (Cond.code yX0_sum cX0_sum 5 (some .int) :: wAll) := fun w h => List.mem_cons_of_mem _ (w_flX0 w h)
  have K58 : ∀ (H : Heap) (locs : List Loc) (ls : Array Slot) (u : sW) (y0 : Int32) (y1 : Int32) (y2 : Int32) , va_P D vwCl (clW o u) H → va_D A (clW o u) → va_S A s.heap H locs → lv_has ls 5 [] → fnW_sum_58 u y0 y1 y2 = some tg → W p l e R s m ([.ref o, .int a1, .int a2] : List Value).toArray below meth c H locs 0 0 Q (F0 m 58 ls [.int y0, .int y1, .int y2, .ref o]) := by
    intro H locs ls u y0 y1 y2 hP hD hS hl ht
    unfold fnW_sum_58 at ht
    obtain ⟨r4, h5, ht⟩ := ob_some ht
    refine kG_i (cl := clW o) (u := u) (va_runV (As := [.int y2, .int y1, .int y0]) (rest := []) ⟨hx, hb, hml, hown, hts⟩ (ctW_settled l D kI o H.size u y2 y1 y0 r4 h5) (cwV 3 hts (gV w_m_X0_44 w_im_yX0_settled w_sel_yX0_settled w_init_MicroMill_Work w_co_yX0_settled) rfl rfl rfl (by decide +kernel) ⟨Nat.le_trans (Nat.le_of_ble_eq_true rfl) hRf, Nat.le_trans (Nat.le_of_ble_eq_true rfl) hRl⟩) (preG (cl := clW o) (u := u) (N := 6) (ci := 0) hK hP (hD.weaken (fun _ _ _ _ => trivial)) rfl rfl _) rfl rfl hl.1 rfl (lv_room (Nat.le_of_ble_eq_true rfl)) dX0_sum_58 ⟨Nat.zero_le _, Nat.zero_le _⟩) hD hS hA (fun H locs hP hD hS => ?_)
    have e9 := Option.some.inj ht
    subst hQ
    exact W.iret (v := r4.1) hx hb hr (fun t ht9 hW => ⟨⟨r4.1, r4.2, rfl, ⟨pr1 e9, pr2 e9⟩, ⟨by rw [ht9]; exact hP, va_K.moved hW.alike hK, hD⟩⟩, hS.F ht9⟩) hS.2.2 dX0_sum_61
  have K39 : ∀ (H : Heap) (locs : List Loc) (ls : Array Slot) (u : sW) (x3 : Int32) (y0 : Int32) , va_P D vwCl (clW o u) H → va_D A (clW o u) → va_S A s.heap H locs → lv_has ls 5 [(0, .ref o), (3, .int x3)] → fnW_sum_39 u x3 y0 = some tg → W p l e R s m ([.ref o, .int a1, .int a2] : List Value).toArray below meth c H locs 0 0 Q (F0 m 39 ls [.int y0]) := by
    intro H locs ls u x3 y0 hP hD hS hl ht
    unfold fnW_sum_39 at ht
    refine lv_istore (lv' := [(4, .int y0), (0, .ref o), (3, .int x3)]) hx hb dX0_sum_39 hl (by decide) rfl (fun ls hl => ?_)
    refine lv_aload_n hx hb dX0_sum_41 rfl (lv_at hl 1 rfl) ?_
    refine lv_iload_n hx hb dX0_sum_42 rfl (lv_at hl 2 rfl) ?_
    refine lv_iload hx hb dX0_sum_43 (lv_at hl 0 rfl) ?_
    refine lv_iload_n hx hb dX0_sum_45 rfl (lv_at hl 2 rfl) ?_
    refine lv_aload_n hx hb dX0_sum_46 rfl (lv_at hl 1 rfl) ?_
    refine va_get (D := D) (ci := 0) (v := .int u.2.2.2.2.1) (C := RX0) (T := TX0) (N := 6) hx hb hts hin0 hown hK hP 0 rfl rfl 4 (by decide) (hw w_f_X0_25) (fun _ h9 => h9) rfl dX0_sum_47 ?_
    refine lv_icmp_le (tgt := 57) hx hb dX0_sum_50 (by decide) (fun g3 => ?_) (fun g3 => ?_)
    · have ht := (if_pos g3).symm.trans ht
      refine lv_iconst (v := (0 : Int32)) hx hb dX0_sum_57 (by decide) ?_
      exact K58 _ _ _ u (0 : Int32) y0 x3 hP hD hS (lv_sub hl [] rfl) ht
    · have ht := (if_neg g3).symm.trans ht
      refine lv_iconst (v := (1 : Int32)) hx hb dX0_sum_53 (by decide) ?_
      refine lv_goto (tgt := 58) hx hb dX0_sum_54 (by decide) ?_
      exact K58 _ _ _ u (1 : Int32) y0 x3 hP hD hS (lv_sub hl [] rfl) ht
  have K38 : ∀ (H : Heap) (locs : List Loc) (ls : Array Slot) (u : sW) (x3 : Int32) , va_P D vwCl (clW o u) H → va_D A (clW o u) → va_S A s.heap H locs → lv_has ls 5 [(0, .ref o), (3, .int x3)] → fnW_sum_38 u x3 = some tg → W p l e R s m ([.ref o, .int a1, .int a2] : List Value).toArray below meth c H locs 0 0 Q (F0 m 38 ls []) := by
    intro H locs ls u x3 hP hD hS hl ht
    unfold fnW_sum_38 at ht
    refine lv_iconst (v := (0 : Int32)) hx hb dX0_sum_38 (by decide) ?_
    exact K39 _ _ _ u x3 (0 : Int32) hP hD hS (lv_sub hl [0, 1] rfl) ht
  unfold fnW_sum at ht
  obtain ⟨H, hHe⟩ : ∃ H : Heap, H = s.heap := ⟨_, rfl⟩
  have hP : va_P D vwCl (clW o u) H := by rw [hHe]; exact hP
  have hS : va_S A s.heap H [] := by rw [hHe]; exact va_S.rf
  rw [← hHe]
  refine lv_iload_n hx hb dX0_sum_0 rfl (lv_at hl 1 rfl) ?_
  refine lv_iload_n hx hb dX0_sum_1 rfl (lv_at hl 2 rfl) ?_
  refine lv_iadd hx hb dX0_sum_2 ?_
  refine lv_istore_n (lv' := [(3, .int (a1 + a2)), (0, .ref o), (1, .int a1), (2, .int a2)]) hx hb dX0_sum_3 rfl hl (by decide) rfl (fun ls hl => ?_)
  refine lv_iload_n hx hb dX0_sum_4 rfl (lv_at hl 2 rfl) ?_
  refine lv_aload_n hx hb dX0_sum_5 rfl (lv_at hl 1 rfl) ?_
  refine va_get (D := D) (ci := 0) (v := .int u.2.2.2.2.2) (C := RX0) (T := TX0) (N := 6) hx hb hts hin0 hown hK hP 0 rfl rfl 5 (by decide) (hw w_f_X0_30) (fun _ h9 => h9) rfl dX0_sum_6 ?_
  refine lv_iand hx hb dX0_sum_9 ?_
  refine lv_iload_n hx hb dX0_sum_10 rfl (lv_at hl 3 rfl) ?_
  refine lv_aload_n hx hb dX0_sum_11 rfl (lv_at hl 1 rfl) ?_
  refine va_get (D := D) (ci := 0) (v := .int u.2.2.2.2.2) (C := RX0) (T := TX0) (N := 6) hx hb hts hin0 hown hK hP 0 rfl rfl 5 (by decide) (hw w_f_X0_30) (fun _ h9 => h9) rfl dX0_sum_12 ?_
  refine lv_iand hx hb dX0_sum_15 ?_
  refine lv_icmp_ne (tgt := 38) hx hb dX0_sum_16 (by decide) (fun g1 => ?_) (fun g1 => ?_)
  · have ht := (if_neg g1).symm.trans ht
    exact K38 _ _ _ u (a1 + a2) hP hD hS (lv_sub hl [1, 0] rfl) ht
  · have ht := (if_pos g1).symm.trans ht
    refine lv_iload_n hx hb dX0_sum_19 rfl (lv_at hl 0 rfl) ?_
    refine lv_aload_n hx hb dX0_sum_20 rfl (lv_at hl 1 rfl) ?_
    refine va_get (D := D) (ci := 0) (v := .int u.2.2.2.2.2) (C := RX0) (T := TX0) (N := 6) hx hb hts hin0 hown hK hP 0 rfl rfl 5 (by decide) (hw w_f_X0_30) (fun _ h9 => h9) rfl dX0_sum_21 ?_
    refine lv_iand hx hb dX0_sum_24 ?_
    refine lv_iload_n hx hb dX0_sum_25 rfl (lv_at hl 2 rfl) ?_
    refine lv_aload_n hx hb dX0_sum_26 rfl (lv_at hl 1 rfl) ?_
    refine va_get (D := D) (ci := 0) (v := .int u.2.2.2.2.2) (C := RX0) (T := TX0) (N := 6) hx hb hts hin0 hown hK hP 0 rfl rfl 5 (by decide) (hw w_f_X0_30) (fun _ h9 => h9) rfl dX0_sum_27 ?_
    refine lv_iand hx hb dX0_sum_30 ?_
    refine lv_icmp_eq (tgt := 38) hx hb dX0_sum_31 (by decide) (fun g2 => ?_) (fun g2 => ?_)
    · have ht := (if_pos g2).symm.trans ht
      exact K38 _ _ _ u (a1 + a2) hP hD hS (lv_sub hl [1, 0] rfl) ht
    · have ht := (if_neg g2).symm.trans ht
      refine lv_iconst (v := (1 : Int32)) hx hb dX0_sum_34 (by decide) ?_
      refine lv_goto (tgt := 39) hx hb dX0_sum_35 (by decide) ?_
      exact K39 _ _ _ u (a1 + a2) (1 : Int32) hP hD hS (lv_sub hl [1, 0] rfl) ht
def fnW_ofTwo (u : sW) (a1 : Int32) (a2 : Int32) (a3 : Int32) : Option (Int32 × sW) := if a1 = (1 : Int32) then ((fnW_logical u a2).bind (fun r2 => some (r2.1, r2.2))) else (if a1 = (2 : Int32) then ((fnW_difference u a2 a3).bind (fun r5 => some (r5.1, r5.2))) else (if a1 = (3 : Int32) then ((fnW_logical u (a2 &&& a3)).bind (fun r8 => some (r8.1, r8.2))) else (if a1 = (4 : Int32) then ((fnW_logical u (a3 &&& (a2 ^^^ (-1 : Int32)))).bind (fun r11 => some (r11.1, r11.2))) else (if a1 = (5 : Int32) then ((fnW_logical u (a2 ||| a3)).bind (fun r14 => some (r14.1, r14.2))) else (if a1 = (6 : Int32) then ((fnW_sum u a2 a3).bind (fun r17 => some (r17.1, r17.2))) else ((fnW_difference u a3 a2).bind (fun r19 => some (r19.1, r19.2))))))))
set_option maxRecDepth 100000 in
set_option maxHeartbeats 4000000 in
theorem ctW_ofTwo (l : Launch) (D : va_G) (kI : ClassId) (o : Nat) (sz : Nat) (u : sW) (a1 : Int32) (a2 : Int32) (a3 : Int32) (tg : Int32 × sW) (ht : fnW_ofTwo u a1 a2 a3 = some tg) : Met l yX0_ofTwo (Cond.code yX0_ofTwo cX0_ofTwo 4 (some .int) :: wAll) ({ frames := 2, cells := 0, slots := 0, locals := 48 } : Room) (va_Pc [.ref o, .int a1, .int a2, .int a3] (prG D kI (clW o) sz u)) (va_Qi (fun (x : Int32) (v : sW) => x = tg.1 ∧ v = tg.2) (poG D kI (clW o) (va_A (clW o u) sz)) (va_A (clW o u) sz)) 0 0 (va_A (clW o u) sz) := by
  refine mOfW (cc := cX0_ofTwo) (maxL := 4) (ret := (some .int)) (by decide) rfl ?_
  intro p e s m args below meth c s₁ Q R hQ hR B hml hv
  obtain ⟨rfl, hsz, hP, hK, hD0⟩ := hv
  have hx := B.exec
  have hb := B.bytes
  have hr := B.returns
  have hts := atoms_spec (ws := Cond.code yX0_ofTwo cX0_ofTwo 4 (some .int) :: wAll) B.pre
  have hw : ∀ {w : Cond}, w ∈ wAll → w.before _ s = true := fun {w} h => hts w (List.mem_cons_of_mem _ h)
  have hown : s.vm.findClass RX0 = some m.cls := findClass_of_methodNamed B.named
  have hlocks := B.notSynchronized
  have hRf : 2 ≤ R.frames := by rw [hR]; exact Nat.le_refl _
  have hRl : 48 ≤ R.locals := by rw [hR]; exact Nat.le_refl _
  subst hsz
  have hD := hD0.self (sz := s.heap.size)
  generalize hAe : va_A (clW o u) s.heap.size = A at hD  hQ
  have hA : ∀ q : Nat, s.heap.size ≤ q → A q := fun q h => by rw [← hAe]; exact Or.inr h
  have hl := lv_entry ([.ref o, .int a1, .int a2, .int a3]) (n := 4) (Nat.le_of_ble_eq_true rfl)
  rw [lg_entry_eq]
  generalize (lg_sl ([.ref o, .int a1, .int a2, .int a3]) ++ List.replicate (4 - (lg_sl ([.ref o, .int a1, .int a2, .int a3])).length) Slot.unset).toArray = ls at hl ⊢
  have hl : lv_has ls 4 [(0, .ref o), (1, .int a1), (2, .int a2), (3, .int a3)] := hl
  unfold fnW_ofTwo at ht
  obtain ⟨H, hHe⟩ : ∃ H : Heap, H = s.heap := ⟨_, rfl⟩
  have hP : va_P D vwCl (clW o u) H := by rw [hHe]; exact hP
  have hS : va_S A s.heap H [] := by rw [hHe]; exact va_S.rf
  rw [← hHe]
  refine lv_iload_n hx hb dX0_ofTwo_0 rfl (lv_at hl 1 rfl) ?_
  by_cases g1 : a1 = (1 : Int32)
  · have ht := (if_pos g1).symm.trans ht
    refine lv_tableIn (off := 39) (tgt := 40) hx hb dX0_ofTwo_1 (by rw [g1]; decide) (by rw [g1]; decide) (by rw [g1]; rfl) (by decide) ?_
    refine lv_aload_n hx hb dX0_ofTwo_40 rfl (lv_at hl 0 rfl) ?_
    refine lv_iload_n hx hb dX0_ofTwo_41 rfl (lv_at hl 2 rfl) ?_
    obtain ⟨r2, h3, ht⟩ := ob_some ht
    refine kG_i (cl := clW o) (u := u) (va_runV (As := [.int a2]) (rest := []) ⟨hx, hb, hml, hown, hts⟩ (ctW_logical l D kI o H.size u a2 r2 h3) (cwV 1 hts (gV w_m_X0_33 w_im_yX0_logical w_sel_yX0_logical w_init_MicroMill_Work w_co_yX0_logical) rfl rfl rfl (by decide +kernel) ⟨Nat.le_trans (Nat.le_of_ble_eq_true rfl) hRf, Nat.le_trans (Nat.le_of_ble_eq_true rfl) hRl⟩) (preG (cl := clW o) (u := u) (N := 6) (ci := 0) hK hP (hD.weaken (fun _ _ _ _ => trivial)) rfl rfl _) rfl rfl hl.1 rfl (lv_room (Nat.le_of_ble_eq_true rfl)) dX0_ofTwo_42 ⟨Nat.zero_le _, Nat.zero_le _⟩) hD hS hA (fun H locs hP hD hS => ?_)
    have e9 := Option.some.inj ht
    subst hQ
    exact W.iret (v := r2.1) hx hb hr (fun t ht9 hW => ⟨⟨r2.1, r2.2, rfl, ⟨pr1 e9, pr2 e9⟩, ⟨by rw [ht9]; exact hP, va_K.moved hW.alike hK, hD⟩⟩, hS.F ht9⟩) hS.2.2 dX0_ofTwo_45
  · have ht := (if_neg g1).symm.trans ht
    by_cases g4 : a1 = (2 : Int32)
    · have ht := (if_pos g4).symm.trans ht
      refine lv_tableIn (off := 45) (tgt := 46) hx hb dX0_ofTwo_1 (by rw [g4]; decide) (by rw [g4]; decide) (by rw [g4]; rfl) (by decide) ?_
      refine lv_aload_n hx hb dX0_ofTwo_46 rfl (lv_at hl 0 rfl) ?_
      refine lv_iload_n hx hb dX0_ofTwo_47 rfl (lv_at hl 2 rfl) ?_
      refine lv_iload_n hx hb dX0_ofTwo_48 rfl (lv_at hl 3 rfl) ?_
      obtain ⟨r5, h6, ht⟩ := ob_some ht
      refine kG_i (cl := clW o) (u := u) (va_runV (As := [.int a2, .int a3]) (rest := []) ⟨hx, hb, hml, hown, hts⟩ (ctW_difference l D kI o H.size u a2 a3 r5 h6) (cwV 2 hts (gV w_m_X0_37 w_im_yX0_difference w_sel_yX0_difference w_init_MicroMill_Work w_co_yX0_difference) rfl rfl rfl (by decide +kernel) ⟨Nat.le_trans (Nat.le_of_ble_eq_true rfl) hRf, Nat.le_trans (Nat.le_of_ble_eq_true rfl) hRl⟩) (preG (cl := clW o) (u := u) (N := 6) (ci := 0) hK hP (hD.weaken (fun _ _ _ _ => trivial)) rfl rfl _) rfl rfl hl.1 rfl (lv_room (Nat.le_of_ble_eq_true rfl)) dX0_ofTwo_49 ⟨Nat.zero_le _, Nat.zero_le _⟩) hD hS hA (fun H locs hP hD hS => ?_)
      have e9 := Option.some.inj ht
      subst hQ
      exact W.iret (v := r5.1) hx hb hr (fun t ht9 hW => ⟨⟨r5.1, r5.2, rfl, ⟨pr1 e9, pr2 e9⟩, ⟨by rw [ht9]; exact hP, va_K.moved hW.alike hK, hD⟩⟩, hS.F ht9⟩) hS.2.2 dX0_ofTwo_52
    · have ht := (if_neg g4).symm.trans ht
      by_cases g7 : a1 = (3 : Int32)
      · have ht := (if_pos g7).symm.trans ht
        refine lv_tableIn (off := 52) (tgt := 53) hx hb dX0_ofTwo_1 (by rw [g7]; decide) (by rw [g7]; decide) (by rw [g7]; rfl) (by decide) ?_
        refine lv_aload_n hx hb dX0_ofTwo_53 rfl (lv_at hl 0 rfl) ?_
        refine lv_iload_n hx hb dX0_ofTwo_54 rfl (lv_at hl 2 rfl) ?_
        refine lv_iload_n hx hb dX0_ofTwo_55 rfl (lv_at hl 3 rfl) ?_
        refine lv_iand hx hb dX0_ofTwo_56 ?_
        obtain ⟨r8, h9, ht⟩ := ob_some ht
        refine kG_i (cl := clW o) (u := u) (va_runV (As := [.int (a2 &&& a3)]) (rest := []) ⟨hx, hb, hml, hown, hts⟩ (ctW_logical l D kI o H.size u (a2 &&& a3) r8 h9) (cwV 1 hts (gV w_m_X0_33 w_im_yX0_logical w_sel_yX0_logical w_init_MicroMill_Work w_co_yX0_logical) rfl rfl rfl (by decide +kernel) ⟨Nat.le_trans (Nat.le_of_ble_eq_true rfl) hRf, Nat.le_trans (Nat.le_of_ble_eq_true rfl) hRl⟩) (preG (cl := clW o) (u := u) (N := 6) (ci := 0) hK hP (hD.weaken (fun _ _ _ _ => trivial)) rfl rfl _) rfl rfl hl.1 rfl (lv_room (Nat.le_of_ble_eq_true rfl)) dX0_ofTwo_57 ⟨Nat.zero_le _, Nat.zero_le _⟩) hD hS hA (fun H locs hP hD hS => ?_)
        have e9 := Option.some.inj ht
        subst hQ
        exact W.iret (v := r8.1) hx hb hr (fun t ht9 hW => ⟨⟨r8.1, r8.2, rfl, ⟨pr1 e9, pr2 e9⟩, ⟨by rw [ht9]; exact hP, va_K.moved hW.alike hK, hD⟩⟩, hS.F ht9⟩) hS.2.2 dX0_ofTwo_60
      · have ht := (if_neg g7).symm.trans ht
        by_cases g10 : a1 = (4 : Int32)
        · have ht := (if_pos g10).symm.trans ht
          refine lv_tableIn (off := 60) (tgt := 61) hx hb dX0_ofTwo_1 (by rw [g10]; decide) (by rw [g10]; decide) (by rw [g10]; rfl) (by decide) ?_
          refine lv_aload_n hx hb dX0_ofTwo_61 rfl (lv_at hl 0 rfl) ?_
          refine lv_iload_n hx hb dX0_ofTwo_62 rfl (lv_at hl 3 rfl) ?_
          refine lv_iload_n hx hb dX0_ofTwo_63 rfl (lv_at hl 2 rfl) ?_
          refine lv_iconst (v := (-1 : Int32)) hx hb dX0_ofTwo_64 (by decide) ?_
          refine lv_ixor hx hb dX0_ofTwo_65 ?_
          refine lv_iand hx hb dX0_ofTwo_66 ?_
          obtain ⟨r11, h12, ht⟩ := ob_some ht
          refine kG_i (cl := clW o) (u := u) (va_runV (As := [.int (a3 &&& (a2 ^^^ (-1 : Int32)))]) (rest := []) ⟨hx, hb, hml, hown, hts⟩ (ctW_logical l D kI o H.size u (a3 &&& (a2 ^^^ (-1 : Int32))) r11 h12) (cwV 1 hts (gV w_m_X0_33 w_im_yX0_logical w_sel_yX0_logical w_init_MicroMill_Work w_co_yX0_logical) rfl rfl rfl (by decide +kernel) ⟨Nat.le_trans (Nat.le_of_ble_eq_true rfl) hRf, Nat.le_trans (Nat.le_of_ble_eq_true rfl) hRl⟩) (preG (cl := clW o) (u := u) (N := 6) (ci := 0) hK hP (hD.weaken (fun _ _ _ _ => trivial)) rfl rfl _) rfl rfl hl.1 rfl (lv_room (Nat.le_of_ble_eq_true rfl)) dX0_ofTwo_67 ⟨Nat.zero_le _, Nat.zero_le _⟩) hD hS hA (fun H locs hP hD hS => ?_)
          have e9 := Option.some.inj ht
          subst hQ
          exact W.iret (v := r11.1) hx hb hr (fun t ht9 hW => ⟨⟨r11.1, r11.2, rfl, ⟨pr1 e9, pr2 e9⟩, ⟨by rw [ht9]; exact hP, va_K.moved hW.alike hK, hD⟩⟩, hS.F ht9⟩) hS.2.2 dX0_ofTwo_70
        · have ht := (if_neg g10).symm.trans ht
          by_cases g13 : a1 = (5 : Int32)
          · have ht := (if_pos g13).symm.trans ht
            refine lv_tableIn (off := 70) (tgt := 71) hx hb dX0_ofTwo_1 (by rw [g13]; decide) (by rw [g13]; decide) (by rw [g13]; rfl) (by decide) ?_
            refine lv_aload_n hx hb dX0_ofTwo_71 rfl (lv_at hl 0 rfl) ?_
            refine lv_iload_n hx hb dX0_ofTwo_72 rfl (lv_at hl 2 rfl) ?_
            refine lv_iload_n hx hb dX0_ofTwo_73 rfl (lv_at hl 3 rfl) ?_
            refine lv_ior hx hb dX0_ofTwo_74 ?_
            obtain ⟨r14, h15, ht⟩ := ob_some ht
            refine kG_i (cl := clW o) (u := u) (va_runV (As := [.int (a2 ||| a3)]) (rest := []) ⟨hx, hb, hml, hown, hts⟩ (ctW_logical l D kI o H.size u (a2 ||| a3) r14 h15) (cwV 1 hts (gV w_m_X0_33 w_im_yX0_logical w_sel_yX0_logical w_init_MicroMill_Work w_co_yX0_logical) rfl rfl rfl (by decide +kernel) ⟨Nat.le_trans (Nat.le_of_ble_eq_true rfl) hRf, Nat.le_trans (Nat.le_of_ble_eq_true rfl) hRl⟩) (preG (cl := clW o) (u := u) (N := 6) (ci := 0) hK hP (hD.weaken (fun _ _ _ _ => trivial)) rfl rfl _) rfl rfl hl.1 rfl (lv_room (Nat.le_of_ble_eq_true rfl)) dX0_ofTwo_75 ⟨Nat.zero_le _, Nat.zero_le _⟩) hD hS hA (fun H locs hP hD hS => ?_)
            have e9 := Option.some.inj ht
            subst hQ
            exact W.iret (v := r14.1) hx hb hr (fun t ht9 hW => ⟨⟨r14.1, r14.2, rfl, ⟨pr1 e9, pr2 e9⟩, ⟨by rw [ht9]; exact hP, va_K.moved hW.alike hK, hD⟩⟩, hS.F ht9⟩) hS.2.2 dX0_ofTwo_78
          · have ht := (if_neg g13).symm.trans ht
            by_cases g16 : a1 = (6 : Int32)
            · have ht := (if_pos g16).symm.trans ht
              refine lv_tableIn (off := 78) (tgt := 79) hx hb dX0_ofTwo_1 (by rw [g16]; decide) (by rw [g16]; decide) (by rw [g16]; rfl) (by decide) ?_
              refine lv_aload_n hx hb dX0_ofTwo_79 rfl (lv_at hl 0 rfl) ?_
              refine lv_iload_n hx hb dX0_ofTwo_80 rfl (lv_at hl 2 rfl) ?_
              refine lv_iload_n hx hb dX0_ofTwo_81 rfl (lv_at hl 3 rfl) ?_
              obtain ⟨r17, h18, ht⟩ := ob_some ht
              refine kG_i (cl := clW o) (u := u) (va_runV (As := [.int a2, .int a3]) (rest := []) ⟨hx, hb, hml, hown, hts⟩ (ctW_sum l D kI o H.size u a2 a3 r17 h18) (cwV 2 hts (gV w_m_X0_41 w_im_yX0_sum w_sel_yX0_sum w_init_MicroMill_Work w_co_yX0_sum) rfl rfl rfl (by decide +kernel) ⟨Nat.le_trans (Nat.le_of_ble_eq_true rfl) hRf, Nat.le_trans (Nat.le_of_ble_eq_true rfl) hRl⟩) (preG (cl := clW o) (u := u) (N := 6) (ci := 0) hK hP (hD.weaken (fun _ _ _ _ => trivial)) rfl rfl _) rfl rfl hl.1 rfl (lv_room (Nat.le_of_ble_eq_true rfl)) dX0_ofTwo_82 ⟨Nat.zero_le _, Nat.zero_le _⟩) hD hS hA (fun H locs hP hD hS => ?_)
              have e9 := Option.some.inj ht
              subst hQ
              exact W.iret (v := r17.1) hx hb hr (fun t ht9 hW => ⟨⟨r17.1, r17.2, rfl, ⟨pr1 e9, pr2 e9⟩, ⟨by rw [ht9]; exact hP, va_K.moved hW.alike hK, hD⟩⟩, hS.F ht9⟩) hS.2.2 dX0_ofTwo_85
            · have ht := (if_neg g16).symm.trans ht
              have ig1 := ne_toInt (a := 1) g1 (by decide)
              have ig4 := ne_toInt (a := 2) g4 (by decide)
              have ig7 := ne_toInt (a := 3) g7 (by decide)
              have ig10 := ne_toInt (a := 4) g10 (by decide)
              have ig13 := ne_toInt (a := 5) g13 (by decide)
              have ig16 := ne_toInt (a := 6) g16 (by decide)
              refine lv_tableOut (tgt := 86) hx hb dX0_ofTwo_1 (by omega) (by decide) ?_
              refine lv_aload_n hx hb dX0_ofTwo_86 rfl (lv_at hl 0 rfl) ?_
              refine lv_iload_n hx hb dX0_ofTwo_87 rfl (lv_at hl 3 rfl) ?_
              refine lv_iload_n hx hb dX0_ofTwo_88 rfl (lv_at hl 2 rfl) ?_
              obtain ⟨r19, h20, ht⟩ := ob_some ht
              refine kG_i (cl := clW o) (u := u) (va_runV (As := [.int a3, .int a2]) (rest := []) ⟨hx, hb, hml, hown, hts⟩ (ctW_difference l D kI o H.size u a3 a2 r19 h20) (cwV 2 hts (gV w_m_X0_37 w_im_yX0_difference w_sel_yX0_difference w_init_MicroMill_Work w_co_yX0_difference) rfl rfl rfl (by decide +kernel) ⟨Nat.le_trans (Nat.le_of_ble_eq_true rfl) hRf, Nat.le_trans (Nat.le_of_ble_eq_true rfl) hRl⟩) (preG (cl := clW o) (u := u) (N := 6) (ci := 0) hK hP (hD.weaken (fun _ _ _ _ => trivial)) rfl rfl _) rfl rfl hl.1 rfl (lv_room (Nat.le_of_ble_eq_true rfl)) dX0_ofTwo_89 ⟨Nat.zero_le _, Nat.zero_le _⟩) hD hS hA (fun H locs hP hD hS => ?_)
              have e9 := Option.some.inj ht
              subst hQ
              exact W.iret (v := r19.1) hx hb hr (fun t ht9 hW => ⟨⟨r19.1, r19.2, rfl, ⟨pr1 e9, pr2 e9⟩, ⟨by rw [ht9]; exact hP, va_K.moved hW.alike hK, hD⟩⟩, hS.F ht9⟩) hS.2.2 dX0_ofTwo_92
def fnW_packed_51 (u : sW) (y0 : Int32) (y1 : Int32) : Option (Int32 × sW) := some ((y1 ||| y0), u)
def fnW_packed_38 (u : sW) (y0 : Int32) (y1 : Int32) : Option (Int32 × sW) := if u.2.2.2.1 = 0 then (fnW_packed_51 u (0 : Int32) (y1 ||| y0)) else (fnW_packed_51 u (1 : Int32) (y1 ||| y0))
def fnW_packed_25 (u : sW) (y0 : Int32) (y1 : Int32) : Option (Int32 × sW) := if u.2.2.1 = 0 then (fnW_packed_38 u (0 : Int32) (y1 ||| y0)) else (fnW_packed_38 u (2 : Int32) (y1 ||| y0))
def fnW_packed_13 (u : sW) (y0 : Int32) : Option (Int32 × sW) := if u.2.1 = 0 then (fnW_packed_25 u (0 : Int32) y0) else (fnW_packed_25 u (4 : Int32) y0)
def fnW_packed (u : sW) : Option (Int32 × sW) := if u.1 = 0 then (fnW_packed_13 u (0 : Int32)) else (fnW_packed_13 u (8 : Int32))
set_option maxRecDepth 100000 in
set_option maxHeartbeats 4000000 in
theorem ctW_packed (l : Launch) (D : va_G) (kI : ClassId) (o : Nat) (sz : Nat) (u : sW) (tg : Int32 × sW) (ht : fnW_packed u  = some tg) : Met l yX0_packed (Cond.code yX0_packed cX0_packed 1 (some .int) :: wAll) ({ frames := 0, cells := 0, slots := 0, locals := 0 } : Room) (va_Pc [.ref o] (prG D kI (clW o) sz u)) (va_Qi (fun (x : Int32) (v : sW) => x = tg.1 ∧ v = tg.2) (poG D kI (clW o) (va_A (clW o u) sz)) (va_A (clW o u) sz)) 0 0 (va_A (clW o u) sz) := by
  refine mOfW (cc := cX0_packed) (maxL := 1) (ret := (some .int)) (by decide) rfl ?_
  intro p e s m args below meth c s₁ Q R hQ hR B hml hv
  obtain ⟨rfl, hsz, hP, hK, hD0⟩ := hv
  have hx := B.exec
  have hb := B.bytes
  have hr := B.returns
  have hts := atoms_spec (ws := Cond.code yX0_packed cX0_packed 1 (some .int) :: wAll) B.pre
  have hw : ∀ {w : Cond}, w ∈ wAll → w.before _ s = true := fun {w} h => hts w (List.mem_cons_of_mem _ h)
  have hown : s.vm.findClass RX0 = some m.cls := findClass_of_methodNamed B.named
  have hlocks := B.notSynchronized
  have hRf : 0 ≤ R.frames := by rw [hR]; exact Nat.le_refl _
  have hRl : 0 ≤ R.locals := by rw [hR]; exact Nat.le_refl _
  subst hsz
  have hD := hD0.self (sz := s.heap.size)
  generalize hAe : va_A (clW o u) s.heap.size = A at hD  hQ
  have hA : ∀ q : Nat, s.heap.size ≤ q → A q := fun q h => by rw [← hAe]; exact Or.inr h
  have hl := lv_entry ([.ref o]) (n := 1) (Nat.le_of_ble_eq_true rfl)
  rw [lg_entry_eq]
  generalize (lg_sl ([.ref o]) ++ List.replicate (1 - (lg_sl ([.ref o])).length) Slot.unset).toArray = ls at hl ⊢
  have hl : lv_has ls 1 [(0, .ref o)] := hl
  have hin0 : ∀ w ∈ u_ws RX0 TX0 6, w ∈ (Cond.code yX0_packed cX0_packed 1 (some .int) :: wAll) := fun w h => List.mem_cons_of_mem _ (w_flX0 w h)
  have K51 : ∀ (H : Heap) (locs : List Loc) (ls : Array Slot) (u : sW) (y0 : Int32) (y1 : Int32) , va_P D vwCl (clW o u) H → va_D A (clW o u) → va_S A s.heap H locs → lv_has ls 1 [] → fnW_packed_51 u y0 y1 = some tg → W p l e R s m ([.ref o] : List Value).toArray below meth c H locs 0 0 Q (F0 m 51 ls [.int y0, .int y1]) := by
    intro H locs ls u y0 y1 hP hD hS hl ht
    unfold fnW_packed_51 at ht
    refine lv_ior hx hb dX0_packed_51 ?_
    have e9 := Option.some.inj ht
    subst hQ
    exact W.iret (v := (y1 ||| y0)) hx hb hr (fun t ht9 hW => ⟨⟨(y1 ||| y0), u, rfl, ⟨pr1 e9, pr2 e9⟩, ⟨by rw [ht9]; exact hP, va_K.moved hW.alike hK, hD⟩⟩, hS.F ht9⟩) hS.2.2 dX0_packed_52
  have K38 : ∀ (H : Heap) (locs : List Loc) (ls : Array Slot) (u : sW) (y0 : Int32) (y1 : Int32) , va_P D vwCl (clW o u) H → va_D A (clW o u) → va_S A s.heap H locs → lv_has ls 1 [(0, .ref o)] → fnW_packed_38 u y0 y1 = some tg → W p l e R s m ([.ref o] : List Value).toArray below meth c H locs 0 0 Q (F0 m 38 ls [.int y0, .int y1]) := by
    intro H locs ls u y0 y1 hP hD hS hl ht
    unfold fnW_packed_38 at ht
    refine lv_ior hx hb dX0_packed_38 ?_
    refine lv_aload_n hx hb dX0_packed_39 rfl (lv_at hl 0 rfl) ?_
    refine va_get (D := D) (ci := 0) (v := .int u.2.2.2.1) (C := RX0) (T := TX0) (N := 6) hx hb hts hin0 hown hK hP 0 rfl rfl 3 (by decide) (hw w_f_X0_21) (fun _ h9 => h9) rfl dX0_packed_40 ?_
    refine lv_if_eq (tgt := 50) hx hb dX0_packed_43 (by decide) (fun g4 => ?_) (fun g4 => ?_)
    · have ht := (if_pos g4).symm.trans ht
      refine lv_iconst (v := (0 : Int32)) hx hb dX0_packed_50 (by decide) ?_
      exact K51 _ _ _ u (0 : Int32) (y1 ||| y0) hP hD hS (lv_sub hl [] rfl) ht
    · have ht := (if_neg g4).symm.trans ht
      refine lv_iconst (v := (1 : Int32)) hx hb dX0_packed_46 (by decide) ?_
      refine lv_goto (tgt := 51) hx hb dX0_packed_47 (by decide) ?_
      exact K51 _ _ _ u (1 : Int32) (y1 ||| y0) hP hD hS (lv_sub hl [] rfl) ht
  have K25 : ∀ (H : Heap) (locs : List Loc) (ls : Array Slot) (u : sW) (y0 : Int32) (y1 : Int32) , va_P D vwCl (clW o u) H → va_D A (clW o u) → va_S A s.heap H locs → lv_has ls 1 [(0, .ref o)] → fnW_packed_25 u y0 y1 = some tg → W p l e R s m ([.ref o] : List Value).toArray below meth c H locs 0 0 Q (F0 m 25 ls [.int y0, .int y1]) := by
    intro H locs ls u y0 y1 hP hD hS hl ht
    unfold fnW_packed_25 at ht
    refine lv_ior hx hb dX0_packed_25 ?_
    refine lv_aload_n hx hb dX0_packed_26 rfl (lv_at hl 0 rfl) ?_
    refine va_get (D := D) (ci := 0) (v := .int u.2.2.1) (C := RX0) (T := TX0) (N := 6) hx hb hts hin0 hown hK hP 0 rfl rfl 2 (by decide) (hw w_f_X0_18) (fun _ h9 => h9) rfl dX0_packed_27 ?_
    refine lv_if_eq (tgt := 37) hx hb dX0_packed_30 (by decide) (fun g3 => ?_) (fun g3 => ?_)
    · have ht := (if_pos g3).symm.trans ht
      refine lv_iconst (v := (0 : Int32)) hx hb dX0_packed_37 (by decide) ?_
      exact K38 _ _ _ u (0 : Int32) (y1 ||| y0) hP hD hS (lv_sub hl [0] rfl) ht
    · have ht := (if_neg g3).symm.trans ht
      refine lv_iconst (v := (2 : Int32)) hx hb dX0_packed_33 (by decide) ?_
      refine lv_goto (tgt := 38) hx hb dX0_packed_34 (by decide) ?_
      exact K38 _ _ _ u (2 : Int32) (y1 ||| y0) hP hD hS (lv_sub hl [0] rfl) ht
  have K13 : ∀ (H : Heap) (locs : List Loc) (ls : Array Slot) (u : sW) (y0 : Int32) , va_P D vwCl (clW o u) H → va_D A (clW o u) → va_S A s.heap H locs → lv_has ls 1 [(0, .ref o)] → fnW_packed_13 u y0 = some tg → W p l e R s m ([.ref o] : List Value).toArray below meth c H locs 0 0 Q (F0 m 13 ls [.int y0]) := by
    intro H locs ls u y0 hP hD hS hl ht
    unfold fnW_packed_13 at ht
    refine lv_aload_n hx hb dX0_packed_13 rfl (lv_at hl 0 rfl) ?_
    refine va_get (D := D) (ci := 0) (v := .int u.2.1) (C := RX0) (T := TX0) (N := 6) hx hb hts hin0 hown hK hP 0 rfl rfl 1 (by decide) (hw w_f_X0_15) (fun _ h9 => h9) rfl dX0_packed_14 ?_
    refine lv_if_eq (tgt := 24) hx hb dX0_packed_17 (by decide) (fun g2 => ?_) (fun g2 => ?_)
    · have ht := (if_pos g2).symm.trans ht
      refine lv_iconst (v := (0 : Int32)) hx hb dX0_packed_24 (by decide) ?_
      exact K25 _ _ _ u (0 : Int32) y0 hP hD hS (lv_sub hl [0] rfl) ht
    · have ht := (if_neg g2).symm.trans ht
      refine lv_iconst (v := (4 : Int32)) hx hb dX0_packed_20 (by decide) ?_
      refine lv_goto (tgt := 25) hx hb dX0_packed_21 (by decide) ?_
      exact K25 _ _ _ u (4 : Int32) y0 hP hD hS (lv_sub hl [0] rfl) ht
  unfold fnW_packed at ht
  obtain ⟨H, hHe⟩ : ∃ H : Heap, H = s.heap := ⟨_, rfl⟩
  have hP : va_P D vwCl (clW o u) H := by rw [hHe]; exact hP
  have hS : va_S A s.heap H [] := by rw [hHe]; exact va_S.rf
  rw [← hHe]
  refine lv_aload_n hx hb dX0_packed_0 rfl (lv_at hl 0 rfl) ?_
  refine va_get (D := D) (ci := 0) (v := .int u.1) (C := RX0) (T := TX0) (N := 6) hx hb hts hin0 hown hK hP 0 rfl rfl 0 (by decide) (hw w_f_X0_9) (fun _ h9 => h9) rfl dX0_packed_1 ?_
  refine lv_if_eq (tgt := 12) hx hb dX0_packed_4 (by decide) (fun g1 => ?_) (fun g1 => ?_)
  · have ht := (if_pos g1).symm.trans ht
    refine lv_iconst (v := (0 : Int32)) hx hb dX0_packed_12 (by decide) ?_
    exact K13 _ _ _ u (0 : Int32) hP hD hS (lv_sub hl [0] rfl) ht
  · have ht := (if_neg g1).symm.trans ht
    refine lv_bipush (v := (8 : Int32)) hx hb dX0_packed_7 (by decide) ?_
    refine lv_goto (tgt := 13) hx hb dX0_packed_9 (by decide) ?_
    exact K13 _ _ _ u (8 : Int32) hP hD hS (lv_sub hl [0] rfl) ht
def fnW_takeWidth_29 (u : sW) (y0 : Int32) : Option (Unit × sW) := some ((), (u.1, u.2.1, u.2.2.1, u.2.2.2.1, u.2.2.2.2.1, y0))
def fnW_takeWidth_13 (u : sW) (x1 : Int32) (y0 : Int32) : Option (Unit × sW) := if x1 = 0 then (fnW_takeWidth_29 (u.1, u.2.1, u.2.2.1, u.2.2.2.1, y0, u.2.2.2.2.2) (32768 : Int32)) else (fnW_takeWidth_29 (u.1, u.2.1, u.2.2.1, u.2.2.2.1, y0, u.2.2.2.2.2) (128 : Int32))
def fnW_takeWidth (u : sW) (a1 : Int32) : Option (Unit × sW) := if a1 = 0 then (fnW_takeWidth_13 u a1 (65535 : Int32)) else (fnW_takeWidth_13 u a1 (255 : Int32))
set_option maxRecDepth 100000 in
set_option maxHeartbeats 4000000 in
theorem ctW_takeWidth (l : Launch) (D : va_G) (kI : ClassId) (o : Nat) (sz : Nat) (u : sW) (a1 : Int32) (tg : Unit × sW) (ht : fnW_takeWidth u a1 = some tg) : Met l yX0_takeWidth (Cond.code yX0_takeWidth cX0_takeWidth 2 none :: wAll) ({ frames := 0, cells := 0, slots := 0, locals := 0 } : Room) (va_Pc [.ref o, .int a1] (prG D kI (clW o) sz u)) (va_Qv (fun (v : sW) => v = tg.2) (poG D kI (clW o) (va_A (clW o u) sz)) (va_A (clW o u) sz)) 0 0 (va_A (clW o u) sz) := by
  refine mOfW (cc := cX0_takeWidth) (maxL := 2) (ret := none) (by decide) rfl ?_
  intro p e s m args below meth c s₁ Q R hQ hR B hml hv
  obtain ⟨rfl, hsz, hP, hK, hD0⟩ := hv
  have hx := B.exec
  have hb := B.bytes
  have hr := B.returns
  have hts := atoms_spec (ws := Cond.code yX0_takeWidth cX0_takeWidth 2 none :: wAll) B.pre
  have hw : ∀ {w : Cond}, w ∈ wAll → w.before _ s = true := fun {w} h => hts w (List.mem_cons_of_mem _ h)
  have hown : s.vm.findClass RX0 = some m.cls := findClass_of_methodNamed B.named
  have hlocks := B.notSynchronized
  have hRf : 0 ≤ R.frames := by rw [hR]; exact Nat.le_refl _
  have hRl : 0 ≤ R.locals := by rw [hR]; exact Nat.le_refl _
  subst hsz
  have hD := hD0.self (sz := s.heap.size)
  generalize hAe : va_A (clW o u) s.heap.size = A at hD  hQ
  have hA : ∀ q : Nat, s.heap.size ≤ q → A q := fun q h => by rw [← hAe]; exact Or.inr h
  have hl := lv_entry ([.ref o, .int a1]) (n := 2) (Nat.le_of_ble_eq_true rfl)
  rw [lg_entry_eq]
  generalize (lg_sl ([.ref o, .int a1]) ++ List.replicate (2 - (lg_sl ([.ref o, .int a1])).length) Slot.unset).toArray = ls at hl ⊢
  have hl : lv_has ls 2 [(0, .ref o), (1, .int a1)] := hl
  have hin0 : ∀ w ∈ u_ws RX0 TX0 6, w ∈ (Cond.code yX0_takeWidth cX0_takeWidth 2 none :: wAll) := fun w h => List.mem_cons_of_mem _ (w_flX0 w h)
  have K29 : ∀ (H : Heap) (locs : List Loc) (ls : Array Slot) (u : sW) (y0 : Int32) , va_P D vwCl (clW o u) H → va_D A (clW o u) → va_S A s.heap H locs → lv_has ls 2 [] → fnW_takeWidth_29 u y0 = some tg → W p l e R s m ([.ref o, .int a1] : List Value).toArray below meth c H locs 0 0 Q (F0 m 29 ls [.int y0, .ref o]) := by
    intro H locs ls u y0 hP hD hS hl ht
    unfold fnW_takeWidth_29 at ht
    refine va_put (D := D) (ci := 0) (v := .int y0) (ty := .int) (C := RX0) (T := TX0) (N := 6) hx hb hts hin0 tyX0 tyX0_ok nmX0 hown hK hP hD hS 0 rfl rfl 5 (by decide) (hw w_f_X0_30) (fun _ h9 => h9) rfl (by decide +kernel) rfl rfl (Nat.le_of_ble_eq_true rfl) dX0_takeWidth_29 (fun H locs hP hD hS => ?_)
    have hP : va_P D vwCl (clW o (u.1, u.2.1, u.2.2.1, u.2.2.2.1, u.2.2.2.2.1, y0)) H := hP
    have hD : va_D A (clW o (u.1, u.2.1, u.2.2.1, u.2.2.2.1, u.2.2.2.2.1, y0)) := hD
    have e9 := Option.some.inj ht
    subst hQ
    exact W.vret hx hb hr (fun t ht9 hW => ⟨⟨(u.1, u.2.1, u.2.2.1, u.2.2.2.1, u.2.2.2.2.1, y0), rfl, pr2 e9, ⟨by rw [ht9]; exact hP, va_K.moved hW.alike hK, hD⟩⟩, hS.F ht9⟩) hS.2.2 dX0_takeWidth_32
  have K13 : ∀ (H : Heap) (locs : List Loc) (ls : Array Slot) (u : sW) (x1 : Int32) (y0 : Int32) , va_P D vwCl (clW o u) H → va_D A (clW o u) → va_S A s.heap H locs → lv_has ls 2 [(0, .ref o), (1, .int x1)] → fnW_takeWidth_13 u x1 y0 = some tg → W p l e R s m ([.ref o, .int a1] : List Value).toArray below meth c H locs 0 0 Q (F0 m 13 ls [.int y0, .ref o]) := by
    intro H locs ls u x1 y0 hP hD hS hl ht
    unfold fnW_takeWidth_13 at ht
    refine va_put (D := D) (ci := 0) (v := .int y0) (ty := .int) (C := RX0) (T := TX0) (N := 6) hx hb hts hin0 tyX0 tyX0_ok nmX0 hown hK hP hD hS 0 rfl rfl 4 (by decide) (hw w_f_X0_25) (fun _ h9 => h9) rfl (by decide +kernel) rfl rfl (Nat.le_of_ble_eq_true rfl) dX0_takeWidth_13 (fun H locs hP hD hS => ?_)
    have hP : va_P D vwCl (clW o (u.1, u.2.1, u.2.2.1, u.2.2.2.1, y0, u.2.2.2.2.2)) H := hP
    have hD : va_D A (clW o (u.1, u.2.1, u.2.2.1, u.2.2.2.1, y0, u.2.2.2.2.2)) := hD
    refine lv_aload_n hx hb dX0_takeWidth_16 rfl (lv_at hl 0 rfl) ?_
    refine lv_iload_n hx hb dX0_takeWidth_17 rfl (lv_at hl 1 rfl) ?_
    refine lv_if_eq (tgt := 27) hx hb dX0_takeWidth_18 (by decide) (fun g2 => ?_) (fun g2 => ?_)
    · have ht := (if_pos g2).symm.trans ht
      refine lv_ldc (v := (32768 : Int32)) hx hb hown (hw w_k_X0_29) dX0_takeWidth_27 ?_
      exact K29 _ _ _ (u.1, u.2.1, u.2.2.1, u.2.2.2.1, y0, u.2.2.2.2.2) (32768 : Int32) hP hD hS (lv_sub hl [] rfl) ht
    · have ht := (if_neg g2).symm.trans ht
      refine lv_sipush (v := (128 : Int32)) hx hb dX0_takeWidth_21 (by decide) ?_
      refine lv_goto (tgt := 29) hx hb dX0_takeWidth_24 (by decide) ?_
      exact K29 _ _ _ (u.1, u.2.1, u.2.2.1, u.2.2.2.1, y0, u.2.2.2.2.2) (128 : Int32) hP hD hS (lv_sub hl [] rfl) ht
  unfold fnW_takeWidth at ht
  obtain ⟨H, hHe⟩ : ∃ H : Heap, H = s.heap := ⟨_, rfl⟩
  have hP : va_P D vwCl (clW o u) H := by rw [hHe]; exact hP
  have hS : va_S A s.heap H [] := by rw [hHe]; exact va_S.rf
  rw [← hHe]
  refine lv_aload_n hx hb dX0_takeWidth_0 rfl (lv_at hl 0 rfl) ?_
  refine lv_iload_n hx hb dX0_takeWidth_1 rfl (lv_at hl 1 rfl) ?_
  refine lv_if_eq (tgt := 11) hx hb dX0_takeWidth_2 (by decide) (fun g1 => ?_) (fun g1 => ?_)
  · have ht := (if_pos g1).symm.trans ht
    refine lv_ldc (v := (65535 : Int32)) hx hb hown (hw w_k_X0_24) dX0_takeWidth_11 ?_
    exact K13 _ _ _ u a1 (65535 : Int32) hP hD hS (lv_sub hl [0, 1] rfl) ht
  · have ht := (if_neg g1).symm.trans ht
    refine lv_sipush (v := (255 : Int32)) hx hb dX0_takeWidth_5 (by decide) ?_
    refine lv_goto (tgt := 13) hx hb dX0_takeWidth_8 (by decide) ?_
    exact K13 _ _ _ u a1 (255 : Int32) hP hD hS (lv_sub hl [0, 1] rfl) ht
