set_option maxRecDepth 100000 in
set_option maxHeartbeats 4000000 in
/-- the law's loop -/
theorem law_loop {p : Program} {e : Env} {s : State} {m : MethodId} {below : List Frame} {meth : Method} {c : Code} (l : Launch) {b L : Nat} {xs : Nat → Int32} (hL : L ≤ 1536) (hx : p.tables.exec = Jvm.exec) (hb : c.code = code) (hr : meth.sig.returnType = ret) (hml : c.maxLocals = 4) (hown : s.vm.findClass RL = some m.cls) (hts : ∀ w ∈ lw_tbl, w.before #[Value.ref b] s = true) (hX : va_X b L xs s s.heap) (hbl : b < s.heap.size) (hlocks : meth.locks = false) {D : va_G} {kI : ClassId} {tb o aw ar ak o2 aw2 ar2 : Nat} {A : Nat → Prop} (hAe : A = fun q => s.heap.size ≤ q) (hK : va_K D vwCl (tyI kI) s) (hZ : pzA tb A s) :
    ∀ (f k : Nat) (u : sA) (v : sD) (H : Heap) (locs : List Loc) (ls : Array Slot), k ≤ 1600 → L + 3 - k < f → Rl u v → va_P D vwCl (clL o aw ar ak o2 aw2 ar2 kI u v) H → va_D A (clL o aw ar ak o2 aw2 ar2 kI u v) → va_S A s.heap H locs → lv_has ls 4 [(0, .ref b), (1, .ref o), (2, .ref o2), (3, .int (nI k))] → W p l e room_1 s m #[Value.ref b] below meth c H locs 7 4132 (lw_Z below #[Value.ref b] s) (F0 m 18 ls []) := by
  have hA : ∀ q, s.heap.size ≤ q → A q := fun q h => by rw [hAe]; exact h
  have hbA : ¬ A b := fun h => by rw [hAe] at h; exact absurd h (Nat.not_le.mpr hbl)
  have hw : ∀ {w : Cond}, w ∈ wAll → w.before #[Value.ref b] s = true := fun {w} h => hts w (wAll_tb w h)
  intro f
  induction f with
  | zero => intro k u v H locs ls hk hf; omega
  | succ f ih =>
    intro k u v H locs ls hk hf hR hP hD hS hl
    refine lv_iload_n hx hb dL_law_18 rfl (lv_at hl 3 rfl) ?_
    refine lv_aload_n hx hb dL_law_19 rfl (lv_at hl 0 rfl) ?_
    refine va_slen hx hb hX hbl hbA hS dL_law_20 ?_
    refine lv_iconst (v := (3 : Int32)) hx hb dL_law_21 (by decide) ?_
    refine lv_isub hx hb dL_law_22 ?_
    refine lv_icmp_gt (tgt := 295) hx hb dL_law_23 (by decide) (fun g0 => ?_) (fun g0 => ?_)
    · refine lv_iconst (v := (1 : Int32)) hx hb dL_law_295 (by decide) ?_
      refine va_forget (fun q hq => by have := hS.2.2 q hq; rw [hAe] at this; exact this) ?_
      exact lw_ret hx hb hr hlocks dL_law_296
    have hkL : k + 3 ≤ L := by
      have h1 : (nI L - nI 3).toInt = (L : Int) - 3 := pk_sub_toInt (by omega) (by omega)
      have h2 : (nI k).toInt = (k : Int) := nI_toInt (by omega)
      have h3 : ¬ (nI L - nI 3).toInt < (nI k).toInt := fun q => g0 (Int32.lt_iff_toInt_lt.mpr q)
      omega
    have i0 : vp_in (nI k) L := vp_in_nI (by omega) (by omega)
    have i1 : vp_in (nI k + (1 : Int32)) L := by rw [nI_1]; exact vp_in_nI (by omega) (by omega)
    have i2 : vp_in (nI k + (2 : Int32)) L := by rw [show nI k + (2 : Int32) = nI (k + 2) from nI_add k 2]; exact vp_in_nI (by omega) (by omega)
    have K : ∀ (u : sA) (v : sD) (H : Heap) (locs : List Loc), Rl u v → va_P D vwCl (clL o aw ar ak o2 aw2 ar2 kI u v) H → va_D A (clL o aw ar ak o2 aw2 ar2 kI u v) → va_S A s.heap H locs → W p l e room_1 s m #[Value.ref b] below meth c H locs 7 4132 (lw_Z below #[Value.ref b] s) (F0 m 289 ls []) := by
      intro u v H locs hR hP hD hS
      refine lv_iinc (v := nI (k + 3)) (lv' := [(3, .int (nI (k + 3))), (0, .ref b), (1, .ref o), (2, .ref o2)]) hx hb dL_law_289 hl (k := 3) rfl (nI_add k 3) (by decide) rfl (fun ls hl => ?_)
      refine lv_goto (tgt := 18) hx hb dL_law_292 (by decide) ?_
      exact ih (k + 3) u v H locs ls (by omega) (by omega) hR hP hD hS (lv_sub hl [1, 2, 3, 0] rfl)
    refine lv_aload_n hx hb dL_law_26 rfl (lv_at hl 0 rfl) ?_
    refine lv_iload_n hx hb dL_law_27 rfl (lv_at hl 3 rfl) ?_
    refine va_sld hx hb hX hbl hbA hS i0 dL_law_28 ?_
    refine lv_bipush (v := (15 : Int32)) hx hb dL_law_29 (by decide) ?_
    refine lv_iand hx hb dL_law_31 ?_
    generalize xs (nI k).toNatClampNeg &&& (15 : Int32) = y
    by_cases g1 : y = (0 : Int32)
    · refine lv_tableIn (off := 56) (tgt := 88) hx hb dL_law_32 (by rw [g1]; decide) (by rw [g1]; decide) (by rw [g1]; rfl) (by decide) ?_
      obtain ⟨x, u2, v2, e1, e2, hR2⟩ := sim_poke hR (xs (nI k + (1 : Int32)).toNatClampNeg) (xs (nI k + (2 : Int32)).toNatClampNeg)
      refine lv_aload_n hx hb dL_law_88 rfl (lv_at hl 1 rfl) ?_
      refine lv_aload_n hx hb dL_law_89 rfl (lv_at hl 0 rfl) ?_
      refine lv_iload_n hx hb dL_law_90 rfl (lv_at hl 3 rfl) ?_
      refine lv_iconst (v := (1 : Int32)) hx hb dL_law_91 (by decide) ?_
      refine lv_iadd hx hb dL_law_92 ?_
      refine va_sld hx hb hX hbl hbA hS i1 dL_law_93 ?_
      refine lv_aload_n hx hb dL_law_94 rfl (lv_at hl 0 rfl) ?_
      refine lv_iload_n hx hb dL_law_95 rfl (lv_at hl 3 rfl) ?_
      refine lv_iconst (v := (2 : Int32)) hx hb dL_law_96 (by decide) ?_
      refine lv_iadd hx hb dL_law_97 ?_
      refine va_sld hx hb hX hbl hbA hS i2 dL_law_98 ?_
      refine kLA_i (va_runV (As := [.int (xs (nI k + (1 : Int32)).toNatClampNeg), .int (xs (nI k + (2 : Int32)).toNatClampNeg)]) (rest := []) ⟨hx, hb, hml, hown, hts⟩ (ctA_poke l D kI tb o aw ar ak H.size u (xs (nI k + (1 : Int32)).toNatClampNeg) (xs (nI k + (2 : Int32)).toNatClampNeg) (x, u2) e1) (cwV 2 hts (gVL w_m_L_13 w_im_yX1_poke w_sel_yX1_poke w_init_MicroMill w_co_yX1_poke) rfl rfl rfl (by decide +kernel) ⟨Nat.le_of_ble_eq_true rfl, Nat.le_of_ble_eq_true rfl⟩) (preA hK (hP.sub (ws' := clA o aw ar ak kI u) [0, 1, 2, 3] rfl) (hD.sub (ws' := clA o aw ar ak kI u) [0, 1, 2, 3] (by decide) rfl) hS hA hZ _) rfl rfl hl.1 rfl (lv_room (Nat.le_of_ble_eq_true rfl)) dL_law_99 ⟨Nat.le_of_ble_eq_true rfl, Nat.le_of_ble_eq_true rfl⟩) hP hD hS hA (fun H locs hP hD hS => ?_)
      refine lv_aload_n hx hb dL_law_102 rfl (lv_at hl 2 rfl) ?_
      refine lv_aload_n hx hb dL_law_103 rfl (lv_at hl 0 rfl) ?_
      refine lv_iload_n hx hb dL_law_104 rfl (lv_at hl 3 rfl) ?_
      refine lv_iconst (v := (1 : Int32)) hx hb dL_law_105 (by decide) ?_
      refine lv_iadd hx hb dL_law_106 ?_
      refine va_sld hx hb hX hbl hbA hS i1 dL_law_107 ?_
      refine lv_aload_n hx hb dL_law_108 rfl (lv_at hl 0 rfl) ?_
      refine lv_iload_n hx hb dL_law_109 rfl (lv_at hl 3 rfl) ?_
      refine lv_iconst (v := (2 : Int32)) hx hb dL_law_110 (by decide) ?_
      refine lv_iadd hx hb dL_law_111 ?_
      refine va_sld hx hb hX hbl hbA hS i2 dL_law_112 ?_
      refine kLD_i (va_runV (As := [.int (xs (nI k + (1 : Int32)).toNatClampNeg), .int (xs (nI k + (2 : Int32)).toNatClampNeg)]) (rest := [.int x]) ⟨hx, hb, hml, hown, hts⟩ (ctD_poke l D kI o2 aw2 ar2 H.size v (xs (nI k + (1 : Int32)).toNatClampNeg) (xs (nI k + (2 : Int32)).toNatClampNeg) (x, v2) e2) (cwV 2 hts (gVL w_m_L_17 w_im_yX2_poke w_sel_yX2_poke w_init_MicroMillModel w_co_yX2_poke) rfl rfl rfl (by decide +kernel) ⟨Nat.le_of_ble_eq_true rfl, Nat.le_of_ble_eq_true rfl⟩) (preG (cl := clD o2 aw2 ar2 kI) (u := v) (N := 7) (ci := 2) hK (hP.sub (ws' := clD o2 aw2 ar2 kI v) [4, 5, 6] rfl) ((hD.sub (ws' := clD o2 aw2 ar2 kI v) [4, 5, 6] (by decide) rfl).weaken (fun _ _ _ _ => trivial)) rfl rfl _) rfl rfl hl.1 rfl (lv_room (Nat.le_of_ble_eq_true rfl)) dL_law_113 ⟨Nat.le_of_ble_eq_true rfl, Nat.le_of_ble_eq_true rfl⟩) hP hD hS hA (fun H locs hP hD hS => ?_)
      refine lv_icmp_eq (tgt := 289) hx hb dL_law_116 (by decide) (fun _ => ?_) (fun g => absurd rfl g)
      exact K u2 v2 H locs hR2 hP hD hS
    by_cases g2 : y = (1 : Int32)
    · refine lv_tableIn (off := 89) (tgt := 121) hx hb dL_law_32 (by rw [g2]; decide) (by rw [g2]; decide) (by rw [g2]; rfl) (by decide) ?_
      obtain ⟨x, u2, v2, e1, e2, hR2⟩ := sim_peek hR (xs (nI k + (1 : Int32)).toNatClampNeg)
      refine lv_aload_n hx hb dL_law_121 rfl (lv_at hl 1 rfl) ?_
      refine lv_aload_n hx hb dL_law_122 rfl (lv_at hl 0 rfl) ?_
      refine lv_iload_n hx hb dL_law_123 rfl (lv_at hl 3 rfl) ?_
      refine lv_iconst (v := (1 : Int32)) hx hb dL_law_124 (by decide) ?_
      refine lv_iadd hx hb dL_law_125 ?_
      refine va_sld hx hb hX hbl hbA hS i1 dL_law_126 ?_
      refine kLA_i (va_runV (As := [.int (xs (nI k + (1 : Int32)).toNatClampNeg)]) (rest := []) ⟨hx, hb, hml, hown, hts⟩ (ctA_peek l D kI tb o aw ar ak H.size u (xs (nI k + (1 : Int32)).toNatClampNeg) (x, u2) e1) (cwV 1 hts (gVL w_m_L_18 w_im_yX1_peek w_sel_yX1_peek w_init_MicroMill w_co_yX1_peek) rfl rfl rfl (by decide +kernel) ⟨Nat.le_of_ble_eq_true rfl, Nat.le_of_ble_eq_true rfl⟩) (preA hK (hP.sub (ws' := clA o aw ar ak kI u) [0, 1, 2, 3] rfl) (hD.sub (ws' := clA o aw ar ak kI u) [0, 1, 2, 3] (by decide) rfl) hS hA hZ _) rfl rfl hl.1 rfl (lv_room (Nat.le_of_ble_eq_true rfl)) dL_law_127 ⟨Nat.le_of_ble_eq_true rfl, Nat.le_of_ble_eq_true rfl⟩) hP hD hS hA (fun H locs hP hD hS => ?_)
      refine lv_aload_n hx hb dL_law_130 rfl (lv_at hl 2 rfl) ?_
      refine lv_aload_n hx hb dL_law_131 rfl (lv_at hl 0 rfl) ?_
      refine lv_iload_n hx hb dL_law_132 rfl (lv_at hl 3 rfl) ?_
      refine lv_iconst (v := (1 : Int32)) hx hb dL_law_133 (by decide) ?_
      refine lv_iadd hx hb dL_law_134 ?_
      refine va_sld hx hb hX hbl hbA hS i1 dL_law_135 ?_
      refine kLD_i (va_runV (As := [.int (xs (nI k + (1 : Int32)).toNatClampNeg)]) (rest := [.int x]) ⟨hx, hb, hml, hown, hts⟩ (ctD_peek l D kI o2 aw2 ar2 H.size v (xs (nI k + (1 : Int32)).toNatClampNeg) (x, v2) e2) (cwV 1 hts (gVL w_m_L_22 w_im_yX2_peek w_sel_yX2_peek w_init_MicroMillModel w_co_yX2_peek) rfl rfl rfl (by decide +kernel) ⟨Nat.le_of_ble_eq_true rfl, Nat.le_of_ble_eq_true rfl⟩) (preG (cl := clD o2 aw2 ar2 kI) (u := v) (N := 7) (ci := 2) hK (hP.sub (ws' := clD o2 aw2 ar2 kI v) [4, 5, 6] rfl) ((hD.sub (ws' := clD o2 aw2 ar2 kI v) [4, 5, 6] (by decide) rfl).weaken (fun _ _ _ _ => trivial)) rfl rfl _) rfl rfl hl.1 rfl (lv_room (Nat.le_of_ble_eq_true rfl)) dL_law_136 ⟨Nat.le_of_ble_eq_true rfl, Nat.le_of_ble_eq_true rfl⟩) hP hD hS hA (fun H locs hP hD hS => ?_)
      refine lv_icmp_eq (tgt := 289) hx hb dL_law_139 (by decide) (fun _ => ?_) (fun g => absurd rfl g)
      exact K u2 v2 H locs hR2 hP hD hS
    by_cases g3 : y = (2 : Int32)
    · refine lv_tableIn (off := 112) (tgt := 144) hx hb dL_law_32 (by rw [g3]; decide) (by rw [g3]; decide) (by rw [g3]; rfl) (by decide) ?_
      obtain ⟨x, u2, v2, e1, e2, hR2⟩ := sim_set hR (xs (nI k + (1 : Int32)).toNatClampNeg) (xs (nI k + (2 : Int32)).toNatClampNeg)
      refine lv_aload_n hx hb dL_law_144 rfl (lv_at hl 1 rfl) ?_
      refine lv_aload_n hx hb dL_law_145 rfl (lv_at hl 0 rfl) ?_
      refine lv_iload_n hx hb dL_law_146 rfl (lv_at hl 3 rfl) ?_
      refine lv_iconst (v := (1 : Int32)) hx hb dL_law_147 (by decide) ?_
      refine lv_iadd hx hb dL_law_148 ?_
      refine va_sld hx hb hX hbl hbA hS i1 dL_law_149 ?_
      refine lv_aload_n hx hb dL_law_150 rfl (lv_at hl 0 rfl) ?_
      refine lv_iload_n hx hb dL_law_151 rfl (lv_at hl 3 rfl) ?_
      refine lv_iconst (v := (2 : Int32)) hx hb dL_law_152 (by decide) ?_
      refine lv_iadd hx hb dL_law_153 ?_
      refine va_sld hx hb hX hbl hbA hS i2 dL_law_154 ?_
      refine kLA_i (va_runV (As := [.int (xs (nI k + (1 : Int32)).toNatClampNeg), .int (xs (nI k + (2 : Int32)).toNatClampNeg)]) (rest := []) ⟨hx, hb, hml, hown, hts⟩ (ctA_set l D kI tb o aw ar ak H.size u (xs (nI k + (1 : Int32)).toNatClampNeg) (xs (nI k + (2 : Int32)).toNatClampNeg) (x, u2) e1) (cwV 2 hts (gVL w_m_L_23 w_im_yX1_set w_sel_yX1_set w_init_MicroMill w_co_yX1_set) rfl rfl rfl (by decide +kernel) ⟨Nat.le_of_ble_eq_true rfl, Nat.le_of_ble_eq_true rfl⟩) (preA hK (hP.sub (ws' := clA o aw ar ak kI u) [0, 1, 2, 3] rfl) (hD.sub (ws' := clA o aw ar ak kI u) [0, 1, 2, 3] (by decide) rfl) hS hA hZ _) rfl rfl hl.1 rfl (lv_room (Nat.le_of_ble_eq_true rfl)) dL_law_155 ⟨Nat.le_of_ble_eq_true rfl, Nat.le_of_ble_eq_true rfl⟩) hP hD hS hA (fun H locs hP hD hS => ?_)
      refine lv_aload_n hx hb dL_law_158 rfl (lv_at hl 2 rfl) ?_
      refine lv_aload_n hx hb dL_law_159 rfl (lv_at hl 0 rfl) ?_
      refine lv_iload_n hx hb dL_law_160 rfl (lv_at hl 3 rfl) ?_
      refine lv_iconst (v := (1 : Int32)) hx hb dL_law_161 (by decide) ?_
      refine lv_iadd hx hb dL_law_162 ?_
      refine va_sld hx hb hX hbl hbA hS i1 dL_law_163 ?_
      refine lv_aload_n hx hb dL_law_164 rfl (lv_at hl 0 rfl) ?_
      refine lv_iload_n hx hb dL_law_165 rfl (lv_at hl 3 rfl) ?_
      refine lv_iconst (v := (2 : Int32)) hx hb dL_law_166 (by decide) ?_
      refine lv_iadd hx hb dL_law_167 ?_
      refine va_sld hx hb hX hbl hbA hS i2 dL_law_168 ?_
      refine kLD_i (va_runV (As := [.int (xs (nI k + (1 : Int32)).toNatClampNeg), .int (xs (nI k + (2 : Int32)).toNatClampNeg)]) (rest := [.int x]) ⟨hx, hb, hml, hown, hts⟩ (ctD_set l D kI o2 aw2 ar2 H.size v (xs (nI k + (1 : Int32)).toNatClampNeg) (xs (nI k + (2 : Int32)).toNatClampNeg) (x, v2) e2) (cwV 2 hts (gVL w_m_L_26 w_im_yX2_set w_sel_yX2_set w_init_MicroMillModel w_co_yX2_set) rfl rfl rfl (by decide +kernel) ⟨Nat.le_of_ble_eq_true rfl, Nat.le_of_ble_eq_true rfl⟩) (preG (cl := clD o2 aw2 ar2 kI) (u := v) (N := 7) (ci := 2) hK (hP.sub (ws' := clD o2 aw2 ar2 kI v) [4, 5, 6] rfl) ((hD.sub (ws' := clD o2 aw2 ar2 kI v) [4, 5, 6] (by decide) rfl).weaken (fun _ _ _ _ => trivial)) rfl rfl _) rfl rfl hl.1 rfl (lv_room (Nat.le_of_ble_eq_true rfl)) dL_law_169 ⟨Nat.le_of_ble_eq_true rfl, Nat.le_of_ble_eq_true rfl⟩) hP hD hS hA (fun H locs hP hD hS => ?_)
      refine lv_icmp_eq (tgt := 289) hx hb dL_law_172 (by decide) (fun _ => ?_) (fun g => absurd rfl g)
      exact K u2 v2 H locs hR2 hP hD hS
    by_cases g4 : y = (3 : Int32)
    · refine lv_tableIn (off := 145) (tgt := 177) hx hb dL_law_32 (by rw [g4]; decide) (by rw [g4]; decide) (by rw [g4]; rfl) (by decide) ?_
      obtain ⟨x, u2, v2, e1, e2, hR2⟩ := sim_register hR (xs (nI k + (1 : Int32)).toNatClampNeg)
      refine lv_aload_n hx hb dL_law_177 rfl (lv_at hl 1 rfl) ?_
      refine lv_aload_n hx hb dL_law_178 rfl (lv_at hl 0 rfl) ?_
      refine lv_iload_n hx hb dL_law_179 rfl (lv_at hl 3 rfl) ?_
      refine lv_iconst (v := (1 : Int32)) hx hb dL_law_180 (by decide) ?_
      refine lv_iadd hx hb dL_law_181 ?_
      refine va_sld hx hb hX hbl hbA hS i1 dL_law_182 ?_
      refine kLA_i (va_runV (As := [.int (xs (nI k + (1 : Int32)).toNatClampNeg)]) (rest := []) ⟨hx, hb, hml, hown, hts⟩ (ctA_register l D kI tb o aw ar ak H.size u (xs (nI k + (1 : Int32)).toNatClampNeg) (x, u2) e1) (cwV 1 hts (gVL w_m_L_27 w_im_yX1_register w_sel_yX1_register w_init_MicroMill w_co_yX1_register) rfl rfl rfl (by decide +kernel) ⟨Nat.le_of_ble_eq_true rfl, Nat.le_of_ble_eq_true rfl⟩) (preA hK (hP.sub (ws' := clA o aw ar ak kI u) [0, 1, 2, 3] rfl) (hD.sub (ws' := clA o aw ar ak kI u) [0, 1, 2, 3] (by decide) rfl) hS hA hZ _) rfl rfl hl.1 rfl (lv_room (Nat.le_of_ble_eq_true rfl)) dL_law_183 ⟨Nat.le_of_ble_eq_true rfl, Nat.le_of_ble_eq_true rfl⟩) hP hD hS hA (fun H locs hP hD hS => ?_)
      refine lv_aload_n hx hb dL_law_186 rfl (lv_at hl 2 rfl) ?_
      refine lv_aload_n hx hb dL_law_187 rfl (lv_at hl 0 rfl) ?_
      refine lv_iload_n hx hb dL_law_188 rfl (lv_at hl 3 rfl) ?_
      refine lv_iconst (v := (1 : Int32)) hx hb dL_law_189 (by decide) ?_
      refine lv_iadd hx hb dL_law_190 ?_
      refine va_sld hx hb hX hbl hbA hS i1 dL_law_191 ?_
      refine kLD_i (va_runV (As := [.int (xs (nI k + (1 : Int32)).toNatClampNeg)]) (rest := [.int x]) ⟨hx, hb, hml, hown, hts⟩ (ctD_register l D kI o2 aw2 ar2 H.size v (xs (nI k + (1 : Int32)).toNatClampNeg) (x, v2) e2) (cwV 1 hts (gVL w_m_L_30 w_im_yX2_register w_sel_yX2_register w_init_MicroMillModel w_co_yX2_register) rfl rfl rfl (by decide +kernel) ⟨Nat.le_of_ble_eq_true rfl, Nat.le_of_ble_eq_true rfl⟩) (preG (cl := clD o2 aw2 ar2 kI) (u := v) (N := 7) (ci := 2) hK (hP.sub (ws' := clD o2 aw2 ar2 kI v) [4, 5, 6] rfl) ((hD.sub (ws' := clD o2 aw2 ar2 kI v) [4, 5, 6] (by decide) rfl).weaken (fun _ _ _ _ => trivial)) rfl rfl _) rfl rfl hl.1 rfl (lv_room (Nat.le_of_ble_eq_true rfl)) dL_law_192 ⟨Nat.le_of_ble_eq_true rfl, Nat.le_of_ble_eq_true rfl⟩) hP hD hS hA (fun H locs hP hD hS => ?_)
      refine lv_icmp_eq (tgt := 289) hx hb dL_law_195 (by decide) (fun _ => ?_) (fun g => absurd rfl g)
      exact K u2 v2 H locs hR2 hP hD hS
    by_cases g5 : y = (4 : Int32)
    · refine lv_tableIn (off := 168) (tgt := 200) hx hb dL_law_32 (by rw [g5]; decide) (by rw [g5]; decide) (by rw [g5]; rfl) (by decide) ?_
      obtain ⟨x, u2, v2, e1, e2, hR2⟩ := sim_flagsC hR 
      refine lv_aload_n hx hb dL_law_200 rfl (lv_at hl 1 rfl) ?_
      refine kLA_i (va_runV (As := []) (rest := []) ⟨hx, hb, hml, hown, hts⟩ (ctA_flags l D kI tb o aw ar ak H.size u  (x, u2) e1) (cwV 0 hts (gVL w_m_L_31 w_im_yX1_flags w_sel_yX1_flags w_init_MicroMill w_co_yX1_flags) rfl rfl rfl (by decide +kernel) ⟨Nat.le_of_ble_eq_true rfl, Nat.le_of_ble_eq_true rfl⟩) (preA hK (hP.sub (ws' := clA o aw ar ak kI u) [0, 1, 2, 3] rfl) (hD.sub (ws' := clA o aw ar ak kI u) [0, 1, 2, 3] (by decide) rfl) hS hA hZ _) rfl rfl hl.1 rfl (lv_room (Nat.le_of_ble_eq_true rfl)) dL_law_201 ⟨Nat.le_of_ble_eq_true rfl, Nat.le_of_ble_eq_true rfl⟩) hP hD hS hA (fun H locs hP hD hS => ?_)
      refine lv_aload_n hx hb dL_law_204 rfl (lv_at hl 2 rfl) ?_
      refine kLD_i (va_runV (As := []) (rest := [.int x]) ⟨hx, hb, hml, hown, hts⟩ (ctD_flags l D kI o2 aw2 ar2 H.size v  (x, v2) e2) (cwV 0 hts (gVL w_m_L_35 w_im_yX2_flags w_sel_yX2_flags w_init_MicroMillModel w_co_yX2_flags) rfl rfl rfl (by decide +kernel) ⟨Nat.le_of_ble_eq_true rfl, Nat.le_of_ble_eq_true rfl⟩) (preG (cl := clD o2 aw2 ar2 kI) (u := v) (N := 7) (ci := 2) hK (hP.sub (ws' := clD o2 aw2 ar2 kI v) [4, 5, 6] rfl) ((hD.sub (ws' := clD o2 aw2 ar2 kI v) [4, 5, 6] (by decide) rfl).weaken (fun _ _ _ _ => trivial)) rfl rfl _) rfl rfl hl.1 rfl (lv_room (Nat.le_of_ble_eq_true rfl)) dL_law_205 ⟨Nat.le_of_ble_eq_true rfl, Nat.le_of_ble_eq_true rfl⟩) hP hD hS hA (fun H locs hP hD hS => ?_)
      refine lv_icmp_eq (tgt := 289) hx hb dL_law_208 (by decide) (fun _ => ?_) (fun g => absurd rfl g)
      exact K u2 v2 H locs hR2 hP hD hS
    by_cases g6 : y = (5 : Int32)
    · refine lv_tableIn (off := 181) (tgt := 213) hx hb dL_law_32 (by rw [g6]; decide) (by rw [g6]; decide) (by rw [g6]; rfl) (by decide) ?_
      obtain ⟨x, u2, v2, e1, e2, hR2⟩ := sim_step hR 
      refine lv_aload_n hx hb dL_law_213 rfl (lv_at hl 1 rfl) ?_
      refine kLA_i (va_runV (As := []) (rest := []) ⟨hx, hb, hml, hown, hts⟩ (ctA_step l D kI tb o aw ar ak H.size u  (x, u2) e1) (cwV 0 hts (gVL w_m_L_36 w_im_yX1_step w_sel_yX1_step w_init_MicroMill w_co_yX1_step) rfl rfl rfl (by decide +kernel) ⟨Nat.le_of_ble_eq_true rfl, Nat.le_of_ble_eq_true rfl⟩) (preA hK (hP.sub (ws' := clA o aw ar ak kI u) [0, 1, 2, 3] rfl) (hD.sub (ws' := clA o aw ar ak kI u) [0, 1, 2, 3] (by decide) rfl) hS hA hZ _) rfl rfl hl.1 rfl (lv_room (Nat.le_of_ble_eq_true rfl)) dL_law_214 ⟨Nat.le_of_ble_eq_true rfl, Nat.le_of_ble_eq_true rfl⟩) hP hD hS hA (fun H locs hP hD hS => ?_)
      refine lv_aload_n hx hb dL_law_217 rfl (lv_at hl 2 rfl) ?_
      refine kLD_i (va_runV (As := []) (rest := [.int x]) ⟨hx, hb, hml, hown, hts⟩ (ctD_step l D kI o2 aw2 ar2 H.size v  (x, v2) e2) (cwV 0 hts (gVL w_m_L_39 w_im_yX2_step w_sel_yX2_step w_init_MicroMillModel w_co_yX2_step) rfl rfl rfl (by decide +kernel) ⟨Nat.le_of_ble_eq_true rfl, Nat.le_of_ble_eq_true rfl⟩) (preG (cl := clD o2 aw2 ar2 kI) (u := v) (N := 7) (ci := 2) hK (hP.sub (ws' := clD o2 aw2 ar2 kI v) [4, 5, 6] rfl) ((hD.sub (ws' := clD o2 aw2 ar2 kI v) [4, 5, 6] (by decide) rfl).weaken (fun _ _ _ _ => trivial)) rfl rfl _) rfl rfl hl.1 rfl (lv_room (Nat.le_of_ble_eq_true rfl)) dL_law_218 ⟨Nat.le_of_ble_eq_true rfl, Nat.le_of_ble_eq_true rfl⟩) hP hD hS hA (fun H locs hP hD hS => ?_)
      refine lv_icmp_eq (tgt := 289) hx hb dL_law_221 (by decide) (fun _ => ?_) (fun g => absurd rfl g)
      exact K u2 v2 H locs hR2 hP hD hS
    by_cases g7 : y = (6 : Int32)
    · refine lv_tableIn (off := 194) (tgt := 226) hx hb dL_law_32 (by rw [g7]; decide) (by rw [g7]; decide) (by rw [g7]; rfl) (by decide) ?_
      obtain ⟨x, u2, v2, e1, e2, hR2⟩ := sim_run hR (xs (nI k + (1 : Int32)).toNatClampNeg)
      refine lv_aload_n hx hb dL_law_226 rfl (lv_at hl 1 rfl) ?_
      refine lv_aload_n hx hb dL_law_227 rfl (lv_at hl 0 rfl) ?_
      refine lv_iload_n hx hb dL_law_228 rfl (lv_at hl 3 rfl) ?_
      refine lv_iconst (v := (1 : Int32)) hx hb dL_law_229 (by decide) ?_
      refine lv_iadd hx hb dL_law_230 ?_
      refine va_sld hx hb hX hbl hbA hS i1 dL_law_231 ?_
      refine kLA_i (va_runV (As := [.int (xs (nI k + (1 : Int32)).toNatClampNeg)]) (rest := []) ⟨hx, hb, hml, hown, hts⟩ (ctA_run l D kI tb o aw ar ak H.size 10001 u (xs (nI k + (1 : Int32)).toNatClampNeg) (x, u2) e1) (cwV 1 hts (gVL w_m_L_40 w_im_yX1_run w_sel_yX1_run w_init_MicroMill w_co_yX1_run) rfl rfl rfl (by decide +kernel) ⟨Nat.le_of_ble_eq_true rfl, Nat.le_of_ble_eq_true rfl⟩) (preA hK (hP.sub (ws' := clA o aw ar ak kI u) [0, 1, 2, 3] rfl) (hD.sub (ws' := clA o aw ar ak kI u) [0, 1, 2, 3] (by decide) rfl) hS hA hZ _) rfl rfl hl.1 rfl (lv_room (Nat.le_of_ble_eq_true rfl)) dL_law_232 ⟨Nat.le_of_ble_eq_true rfl, Nat.le_of_ble_eq_true rfl⟩) hP hD hS hA (fun H locs hP hD hS => ?_)
      refine lv_aload_n hx hb dL_law_235 rfl (lv_at hl 2 rfl) ?_
      refine lv_aload_n hx hb dL_law_236 rfl (lv_at hl 0 rfl) ?_
      refine lv_iload_n hx hb dL_law_237 rfl (lv_at hl 3 rfl) ?_
      refine lv_iconst (v := (1 : Int32)) hx hb dL_law_238 (by decide) ?_
      refine lv_iadd hx hb dL_law_239 ?_
      refine va_sld hx hb hX hbl hbA hS i1 dL_law_240 ?_
      refine kLD_i (va_runV (As := [.int (xs (nI k + (1 : Int32)).toNatClampNeg)]) (rest := [.int x]) ⟨hx, hb, hml, hown, hts⟩ (ctD_run l D kI o2 aw2 ar2 H.size 10001 v (xs (nI k + (1 : Int32)).toNatClampNeg) (x, v2) e2) (cwV 1 hts (gVL w_m_L_43 w_im_yX2_run w_sel_yX2_run w_init_MicroMillModel w_co_yX2_run) rfl rfl rfl (by decide +kernel) ⟨Nat.le_of_ble_eq_true rfl, Nat.le_of_ble_eq_true rfl⟩) (preG (cl := clD o2 aw2 ar2 kI) (u := v) (N := 7) (ci := 2) hK (hP.sub (ws' := clD o2 aw2 ar2 kI v) [4, 5, 6] rfl) ((hD.sub (ws' := clD o2 aw2 ar2 kI v) [4, 5, 6] (by decide) rfl).weaken (fun _ _ _ _ => trivial)) rfl rfl _) rfl rfl hl.1 rfl (lv_room (Nat.le_of_ble_eq_true rfl)) dL_law_241 ⟨Nat.le_of_ble_eq_true rfl, Nat.le_of_ble_eq_true rfl⟩) hP hD hS hA (fun H locs hP hD hS => ?_)
      refine lv_icmp_eq (tgt := 289) hx hb dL_law_244 (by decide) (fun _ => ?_) (fun g => absurd rfl g)
      exact K u2 v2 H locs hR2 hP hD hS
    by_cases g8 : y = (7 : Int32)
    · refine lv_tableIn (off := 217) (tgt := 249) hx hb dL_law_32 (by rw [g8]; decide) (by rw [g8]; decide) (by rw [g8]; rfl) (by decide) ?_
      obtain ⟨x, u2, v2, e1, e2, hR2⟩ := sim_cycles hR 
      refine lv_aload_n hx hb dL_law_249 rfl (lv_at hl 1 rfl) ?_
      refine kLA_l (va_runV (As := []) (rest := []) ⟨hx, hb, hml, hown, hts⟩ (ctA_cycles l D kI tb o aw ar ak H.size u  (x, u2) e1) (cwV 0 hts (gVL w_m_L_44 w_im_yX1_cycles w_sel_yX1_cycles w_init_MicroMill w_co_yX1_cycles) rfl rfl rfl (by decide +kernel) ⟨Nat.le_of_ble_eq_true rfl, Nat.le_of_ble_eq_true rfl⟩) (preA hK (hP.sub (ws' := clA o aw ar ak kI u) [0, 1, 2, 3] rfl) (hD.sub (ws' := clA o aw ar ak kI u) [0, 1, 2, 3] (by decide) rfl) hS hA hZ _) rfl rfl hl.1 rfl (lv_room (Nat.le_of_ble_eq_true rfl)) dL_law_250 ⟨Nat.le_of_ble_eq_true rfl, Nat.le_of_ble_eq_true rfl⟩) hP hD hS hA (fun H locs hP hD hS => ?_)
      refine lv_aload_n hx hb dL_law_253 rfl (lv_at hl 2 rfl) ?_
      refine kLD_l (va_runV (As := []) (rest := [.long x]) ⟨hx, hb, hml, hown, hts⟩ (ctD_cycles l D kI o2 aw2 ar2 H.size v  (x, v2) e2) (cwV 0 hts (gVL w_m_L_48 w_im_yX2_cycles w_sel_yX2_cycles w_init_MicroMillModel w_co_yX2_cycles) rfl rfl rfl (by decide +kernel) ⟨Nat.le_of_ble_eq_true rfl, Nat.le_of_ble_eq_true rfl⟩) (preG (cl := clD o2 aw2 ar2 kI) (u := v) (N := 7) (ci := 2) hK (hP.sub (ws' := clD o2 aw2 ar2 kI v) [4, 5, 6] rfl) ((hD.sub (ws' := clD o2 aw2 ar2 kI v) [4, 5, 6] (by decide) rfl).weaken (fun _ _ _ _ => trivial)) rfl rfl _) rfl rfl hl.1 rfl (lv_room (Nat.le_of_ble_eq_true rfl)) dL_law_254 ⟨Nat.le_of_ble_eq_true rfl, Nat.le_of_ble_eq_true rfl⟩) hP hD hS hA (fun H locs hP hD hS => ?_)
      refine W.lcmp hx hb dL_law_257 ?_
      refine lv_if_eq (tgt := 289) hx hb dL_law_258 (by decide) (fun _ => ?_) (fun g => ?_)
      · exact K u2 v2 H locs hR2 hP hD hS
      · exact absurd (cmp_self x) g
    by_cases g9 : y = (8 : Int32)
    · refine lv_tableIn (off := 231) (tgt := 263) hx hb dL_law_32 (by rw [g9]; decide) (by rw [g9]; decide) (by rw [g9]; rfl) (by decide) ?_
      obtain ⟨x, u2, v2, e1, e2, hR2⟩ := sim_stopped hR 
      refine lv_aload_n hx hb dL_law_263 rfl (lv_at hl 1 rfl) ?_
      refine kLA_i (va_runV (As := []) (rest := []) ⟨hx, hb, hml, hown, hts⟩ (ctA_stopped l D kI tb o aw ar ak H.size u  (x, u2) e1) (cwV 0 hts (gVL w_m_L_49 w_im_yX1_stopped w_sel_yX1_stopped w_init_MicroMill w_co_yX1_stopped) rfl rfl rfl (by decide +kernel) ⟨Nat.le_of_ble_eq_true rfl, Nat.le_of_ble_eq_true rfl⟩) (preA hK (hP.sub (ws' := clA o aw ar ak kI u) [0, 1, 2, 3] rfl) (hD.sub (ws' := clA o aw ar ak kI u) [0, 1, 2, 3] (by decide) rfl) hS hA hZ _) rfl rfl hl.1 rfl (lv_room (Nat.le_of_ble_eq_true rfl)) dL_law_264 ⟨Nat.le_of_ble_eq_true rfl, Nat.le_of_ble_eq_true rfl⟩) hP hD hS hA (fun H locs hP hD hS => ?_)
      refine lv_aload_n hx hb dL_law_267 rfl (lv_at hl 2 rfl) ?_
      refine kLD_i (va_runV (As := []) (rest := [.int x]) ⟨hx, hb, hml, hown, hts⟩ (ctD_stopped l D kI o2 aw2 ar2 H.size v  (x, v2) e2) (cwV 0 hts (gVL w_m_L_52 w_im_yX2_stopped w_sel_yX2_stopped w_init_MicroMillModel w_co_yX2_stopped) rfl rfl rfl (by decide +kernel) ⟨Nat.le_of_ble_eq_true rfl, Nat.le_of_ble_eq_true rfl⟩) (preG (cl := clD o2 aw2 ar2 kI) (u := v) (N := 7) (ci := 2) hK (hP.sub (ws' := clD o2 aw2 ar2 kI v) [4, 5, 6] rfl) ((hD.sub (ws' := clD o2 aw2 ar2 kI v) [4, 5, 6] (by decide) rfl).weaken (fun _ _ _ _ => trivial)) rfl rfl _) rfl rfl hl.1 rfl (lv_room (Nat.le_of_ble_eq_true rfl)) dL_law_268 ⟨Nat.le_of_ble_eq_true rfl, Nat.le_of_ble_eq_true rfl⟩) hP hD hS hA (fun H locs hP hD hS => ?_)
      refine lv_icmp_eq (tgt := 289) hx hb dL_law_271 (by decide) (fun _ => ?_) (fun g => absurd rfl g)
      exact K u2 v2 H locs hR2 hP hD hS
    by_cases g10 : y = (9 : Int32)
    · refine lv_tableIn (off := 244) (tgt := 276) hx hb dL_law_32 (by rw [g10]; decide) (by rw [g10]; decide) (by rw [g10]; rfl) (by decide) ?_
      obtain ⟨x, u2, v2, e1, e2, hR2⟩ := sim_go hR 
      refine lv_aload_n hx hb dL_law_276 rfl (lv_at hl 1 rfl) ?_
      refine kLA_i (va_runV (As := []) (rest := []) ⟨hx, hb, hml, hown, hts⟩ (ctA_go l D kI tb o aw ar ak H.size u  (x, u2) e1) (cwV 0 hts (gVL w_m_L_53 w_im_yX1_go w_sel_yX1_go w_init_MicroMill w_co_yX1_go) rfl rfl rfl (by decide +kernel) ⟨Nat.le_of_ble_eq_true rfl, Nat.le_of_ble_eq_true rfl⟩) (preA hK (hP.sub (ws' := clA o aw ar ak kI u) [0, 1, 2, 3] rfl) (hD.sub (ws' := clA o aw ar ak kI u) [0, 1, 2, 3] (by decide) rfl) hS hA hZ _) rfl rfl hl.1 rfl (lv_room (Nat.le_of_ble_eq_true rfl)) dL_law_277 ⟨Nat.le_of_ble_eq_true rfl, Nat.le_of_ble_eq_true rfl⟩) hP hD hS hA (fun H locs hP hD hS => ?_)
      refine lv_aload_n hx hb dL_law_280 rfl (lv_at hl 2 rfl) ?_
      refine kLD_i (va_runV (As := []) (rest := [.int x]) ⟨hx, hb, hml, hown, hts⟩ (ctD_go l D kI o2 aw2 ar2 H.size v  (x, v2) e2) (cwV 0 hts (gVL w_m_L_57 w_im_yX2_go w_sel_yX2_go w_init_MicroMillModel w_co_yX2_go) rfl rfl rfl (by decide +kernel) ⟨Nat.le_of_ble_eq_true rfl, Nat.le_of_ble_eq_true rfl⟩) (preG (cl := clD o2 aw2 ar2 kI) (u := v) (N := 7) (ci := 2) hK (hP.sub (ws' := clD o2 aw2 ar2 kI v) [4, 5, 6] rfl) ((hD.sub (ws' := clD o2 aw2 ar2 kI v) [4, 5, 6] (by decide) rfl).weaken (fun _ _ _ _ => trivial)) rfl rfl _) rfl rfl hl.1 rfl (lv_room (Nat.le_of_ble_eq_true rfl)) dL_law_281 ⟨Nat.le_of_ble_eq_true rfl, Nat.le_of_ble_eq_true rfl⟩) hP hD hS hA (fun H locs hP hD hS => ?_)
      refine lv_icmp_eq (tgt := 289) hx hb dL_law_284 (by decide) (fun _ => ?_) (fun g => absurd rfl g)
      exact K u2 v2 H locs hR2 hP hD hS
    have j0 := ne_toInt (a := 0) g1 (by decide)
    have j1 := ne_toInt (a := 1) g2 (by decide)
    have j2 := ne_toInt (a := 2) g3 (by decide)
    have j3 := ne_toInt (a := 3) g4 (by decide)
    have j4 := ne_toInt (a := 4) g5 (by decide)
    have j5 := ne_toInt (a := 5) g6 (by decide)
    have j6 := ne_toInt (a := 6) g7 (by decide)
    have j7 := ne_toInt (a := 7) g8 (by decide)
    have j8 := ne_toInt (a := 8) g9 (by decide)
    have j9 := ne_toInt (a := 9) g10 (by decide)
    refine lv_tableOut (tgt := 289) hx hb dL_law_32 (by omega) (by decide) ?_
    exact K u v H locs hR hP hD hS
