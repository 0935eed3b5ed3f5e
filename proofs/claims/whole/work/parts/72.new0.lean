set_option maxHeartbeats 8000000 in
set_option maxRecDepth 100000 in
theorem c_PS_init {g : gG} {h0 sz : Nat} {l : Launch} {b : Nat} (hb13 : b ≤ 13) :
    gc_NI (S := Nat) l y_PS_init (gx_ws y_PS_init b_PS_init 2 none) 1 20 1 128 g [.ref h0, .int (nI b)] (gJ h0 0 [.null, .int (nI 0), .int (nI 0)]) (fun w => [gO h0 w 0, gL g w (mt_wd b) (fun _ => 0)]) (fun _ => True) sz := by
  refine gx_body (by decide) (Nat.le_of_ble_eq_true rfl) ?_
  intro p e s m below meth c ls hAt hB hl
  obtain ⟨hx, hb, hml, hown, hts, hr, hlk, hnm⟩ := hAt
  have hown : s.vm.findClass R_PS = some m.cls := hown
  obtain ⟨⟨hsz, hP, hG⟩, hD0⟩ := hB
  subst hsz
  have hD := hD0.self (sz := s.heap.size)
  generalize hAe : va_A [gJ h0 0 [.null, .int (nI 0), .int (nI 0)]] s.heap.size = A at hD ⊢
  have hA : ∀ q : Nat, s.heap.size ≤ q → A q := fun q h => by rw [← hAe]; exact Or.inr h
  have hS : va_S A s.heap s.heap [] := va_S.rf
  have hl : lv_has ls 2 [(0, .ref h0), (1, .int (nI b))] := hl
  have hwd := mt_wd_le hb13
  refine lv_aload_n hx hb d_PS_init_0 rfl (lv_at hl 0 rfl) ?_
  refine W.objInit hx hb hown (hts _ wd_63) (hts _ wd_16) (hts _ wd_17) rfl (by rw [hml]; exact hl.1) rfl d_PS_init_1 (Nat.le_of_ble_eq_true rfl) (Nat.le_of_ble_eq_true rfl) ?_
  refine W.eq (g2 := F0 m 4 ls []) rfl ?_
  refine lv_aload_n hx hb d_PS_init_4 rfl (lv_at hl 0 rfl) ?_
  refine lv_iload_n hx hb d_PS_init_5 rfl (lv_at hl 1 rfl) ?_
  refine vp_callSi (va_runS (own := R_PS) (As := [.int (nI b)]) (rest := [.ref h0]) ⟨hx, hb, hml, hown, hts⟩ (c_PS_wordsFor (l := l) (g := g) (b := b) (by omega)) (va_cwS 1 hts (gx_goodS wd_64 wd_65 wd_4 wd_66) rfl rfl rfl (by decide +kernel) ⟨Nat.le_of_ble_eq_true rfl, Nat.le_of_ble_eq_true rfl⟩) (gc_preS (ws := []) (fun _ _ h => by cases h) hG) rfl rfl hl.1 rfl (lv_room (Nat.le_of_ble_eq_true rfl)) d_PS_init_6 ⟨Nat.le_of_ble_eq_true rfl, Nat.le_of_ble_eq_true rfl⟩).run (fun r hr6 => ?_)
  subst hr6
  refine gx_newa 2 (ty := .long) (N' := mt_wd b) (a0 := (mt_wd b, .inr (.inl (fun _ => 0)))) hx hb (hts _ wd_79) rfl hG rfl hP hD hS hA (fun _ => rfl) (by exact nI_pos (by omega)) (by exact nI_clamp (by omega)) (by show mt_wd b * 8 ≤ _; omega) (Nat.le_of_ble_eq_true rfl) (by show 0 + mt_wd b ≤ 128; omega) d_PS_init_9 (fun q9 H hP hD hS => ?_)
  have hP : va_P g.1 gx_cl [gJ h0 0 [.null, .int (nI 0), .int (nI 0)], gL g q9 (mt_wd b) ((fun _ => 0))] H := hP
  have hD : va_D A [gJ h0 0 [.null, .int (nI 0), .int (nI 0)], gL g q9 (mt_wd b) ((fun _ => 0))] := hD
  refine W.widen (k := 1) (n := 128) (by omega) (by omega) ?_
  refine va_putF (D := g.1) (own := R_PS) (ref := R_PS) (ci := 0) (v := .ref q9) (ty := .array (.long)) (C := R_PS) (T := F_PS) (N := 3) hx hb hts in_PS t_PS t_PS_ok n_PS hown hG.1 hP hD hS 0 rfl rfl 0 (by decide) (hts _ wd_67) (fun _ h9 => h9) rfl hnm rfl (by decide +kernel) rfl rfl (Nat.le_of_ble_eq_true rfl) d_PS_init_11 (fun H locs hP hD hS => ?_)
  have hP : va_P g.1 gx_cl [gJ h0 0 [.ref q9, .int (nI 0), .int (nI 0)], gL g q9 (mt_wd b) ((fun _ => 0))] H := hP
  have hD : va_D A [gJ h0 0 [.ref q9, .int (nI 0), .int (nI 0)], gL g q9 (mt_wd b) ((fun _ => 0))] := hD
  refine W.widen (k := 1) (n := 128) (by decide) (by decide) ?_
  exact gc_retn (u := q9) (Wf := fun w => [gO h0 w 0, gL g w (mt_wd b) (fun _ => 0)]) (post := fun _ => True) hx hb hr hlk (trivial) hP hD hS d_PS_init_14

set_option maxHeartbeats 8000000 in
set_option maxRecDepth 100000 in
theorem c_TT_init {g : gG} {h0 sz : Nat} {l : Launch}   :
    gc_NI (S := Nat → Nat) l y_TT_init (gx_ws y_TT_init b_TT_init 1 none) 1 12 5 65 g [.ref h0] (gJ h0 1 [.null, .null, .null, .null, .null, .int (nI 0)]) (fun t => [gJ h0 1 [.ref (t 0), .ref (t 1), .ref (t 2), .ref (t 3), .ref (t 4), .int (nI 0)], gI g (t 0) 13 (fun _ => 0), gI g (t 1) 13 (fun _ => 0), gI g (t 2) 13 (fun _ => 0), gI g (t 3) 13 (fun _ => 0), gZ g (t 4) 13 (fun _ => 0)]) (fun _ => True) sz := by
  refine gx_body (by decide) (Nat.le_of_ble_eq_true rfl) ?_
  intro p e s m below meth c ls hAt hB hl
  obtain ⟨hx, hb, hml, hown, hts, hr, hlk, hnm⟩ := hAt
  have hown : s.vm.findClass R_TT = some m.cls := hown
  obtain ⟨⟨hsz, hP, hG⟩, hD0⟩ := hB
  subst hsz
  have hD := hD0.self (sz := s.heap.size)
  generalize hAe : va_A [gJ h0 1 [.null, .null, .null, .null, .null, .int (nI 0)]] s.heap.size = A at hD ⊢
  have hA : ∀ q : Nat, s.heap.size ≤ q → A q := fun q h => by rw [← hAe]; exact Or.inr h
  have hS : va_S A s.heap s.heap [] := va_S.rf
  have hl : lv_has ls 1 [(0, .ref h0)] := hl
  refine lv_aload_n hx hb d_TT_init_0 rfl (lv_at hl 0 rfl) ?_
  refine W.objInit hx hb hown (hts _ wd_29) (hts _ wd_16) (hts _ wd_17) rfl (by rw [hml]; exact hl.1) rfl d_TT_init_1 (Nat.le_of_ble_eq_true rfl) (Nat.le_of_ble_eq_true rfl) ?_
  refine W.eq (g2 := F0 m 4 ls []) rfl ?_
  refine lv_aload_n hx hb d_TT_init_4 rfl (lv_at hl 0 rfl) ?_
  refine lv_bipush (v := nI 13) hx hb d_TT_init_5 (by decide) ?_
  refine gx_newa 0 (ty := .int) (N' := 13) (a0 := (13, .inl (fun _ => 0))) hx hb (hts _ wd_55) rfl hG rfl hP hD hS hA (fun _ => rfl) (by decide) (by decide) (by decide) (Nat.le_of_ble_eq_true rfl) (by decide) d_TT_init_7 (fun q7 H hP hD hS => ?_)
  have hP : va_P g.1 gx_cl [gJ h0 1 [.null, .null, .null, .null, .null, .int (nI 0)], gI g q7 13 ((fun _ => 0))] H := hP
  have hD : va_D A [gJ h0 1 [.null, .null, .null, .null, .null, .int (nI 0)], gI g q7 13 ((fun _ => 0))] := hD
  refine W.widen (k := 1) (n := 13) (by omega) (by omega) ?_
  refine va_putF (D := g.1) (own := R_TT) (ref := R_TT) (ci := 1) (v := .ref q7) (ty := .array (.int)) (C := R_TT) (T := F_TT) (N := 6) hx hb hts in_TT t_TT t_TT_ok n_TT hown hG.1 hP hD hS 0 rfl rfl 0 (by decide) (hts _ wd_30) (fun _ h9 => h9) rfl hnm rfl (by decide +kernel) rfl rfl (Nat.le_of_ble_eq_true rfl) d_TT_init_9 (fun H locs hP hD hS => ?_)
  have hP : va_P g.1 gx_cl [gJ h0 1 [.ref q7, .null, .null, .null, .null, .int (nI 0)], gI g q7 13 ((fun _ => 0))] H := hP
  have hD : va_D A [gJ h0 1 [.ref q7, .null, .null, .null, .null, .int (nI 0)], gI g q7 13 ((fun _ => 0))] := hD
  refine lv_aload_n hx hb d_TT_init_12 rfl (lv_at hl 0 rfl) ?_
  refine lv_bipush (v := nI 13) hx hb d_TT_init_13 (by decide) ?_
  refine gx_newa 0 (ty := .int) (N' := 13) (a0 := (13, .inl (fun _ => 0))) hx hb (hts _ wd_55) rfl hG rfl hP hD hS hA (fun _ => rfl) (by decide) (by decide) (by decide) (Nat.le_of_ble_eq_true rfl) (by decide) d_TT_init_15 (fun q15 H hP hD hS => ?_)
  have hP : va_P g.1 gx_cl [gJ h0 1 [.ref q7, .null, .null, .null, .null, .int (nI 0)], gI g q7 13 ((fun _ => 0)), gI g q15 13 ((fun _ => 0))] H := hP
  have hD : va_D A [gJ h0 1 [.ref q7, .null, .null, .null, .null, .int (nI 0)], gI g q7 13 ((fun _ => 0)), gI g q15 13 ((fun _ => 0))] := hD
  refine W.widen (k := 2) (n := 26) (by omega) (by omega) ?_
  refine va_putF (D := g.1) (own := R_TT) (ref := R_TT) (ci := 1) (v := .ref q15) (ty := .array (.int)) (C := R_TT) (T := F_TT) (N := 6) hx hb hts in_TT t_TT t_TT_ok n_TT hown hG.1 hP hD hS 0 rfl rfl 1 (by decide) (hts _ wd_31) (fun _ h9 => h9) rfl hnm rfl (by decide +kernel) rfl rfl (Nat.le_of_ble_eq_true rfl) d_TT_init_17 (fun H locs hP hD hS => ?_)
  have hP : va_P g.1 gx_cl [gJ h0 1 [.ref q7, .ref q15, .null, .null, .null, .int (nI 0)], gI g q7 13 ((fun _ => 0)), gI g q15 13 ((fun _ => 0))] H := hP
  have hD : va_D A [gJ h0 1 [.ref q7, .ref q15, .null, .null, .null, .int (nI 0)], gI g q7 13 ((fun _ => 0)), gI g q15 13 ((fun _ => 0))] := hD
  refine lv_aload_n hx hb d_TT_init_20 rfl (lv_at hl 0 rfl) ?_
  refine lv_bipush (v := nI 13) hx hb d_TT_init_21 (by decide) ?_
  refine gx_newa 0 (ty := .int) (N' := 13) (a0 := (13, .inl (fun _ => 0))) hx hb (hts _ wd_55) rfl hG rfl hP hD hS hA (fun _ => rfl) (by decide) (by decide) (by decide) (Nat.le_of_ble_eq_true rfl) (by decide) d_TT_init_23 (fun q23 H hP hD hS => ?_)
  have hP : va_P g.1 gx_cl [gJ h0 1 [.ref q7, .ref q15, .null, .null, .null, .int (nI 0)], gI g q7 13 ((fun _ => 0)), gI g q15 13 ((fun _ => 0)), gI g q23 13 ((fun _ => 0))] H := hP
  have hD : va_D A [gJ h0 1 [.ref q7, .ref q15, .null, .null, .null, .int (nI 0)], gI g q7 13 ((fun _ => 0)), gI g q15 13 ((fun _ => 0)), gI g q23 13 ((fun _ => 0))] := hD
  refine W.widen (k := 3) (n := 39) (by omega) (by omega) ?_
  refine va_putF (D := g.1) (own := R_TT) (ref := R_TT) (ci := 1) (v := .ref q23) (ty := .array (.int)) (C := R_TT) (T := F_TT) (N := 6) hx hb hts in_TT t_TT t_TT_ok n_TT hown hG.1 hP hD hS 0 rfl rfl 2 (by decide) (hts _ wd_33) (fun _ h9 => h9) rfl hnm rfl (by decide +kernel) rfl rfl (Nat.le_of_ble_eq_true rfl) d_TT_init_25 (fun H locs hP hD hS => ?_)
  have hP : va_P g.1 gx_cl [gJ h0 1 [.ref q7, .ref q15, .ref q23, .null, .null, .int (nI 0)], gI g q7 13 ((fun _ => 0)), gI g q15 13 ((fun _ => 0)), gI g q23 13 ((fun _ => 0))] H := hP
  have hD : va_D A [gJ h0 1 [.ref q7, .ref q15, .ref q23, .null, .null, .int (nI 0)], gI g q7 13 ((fun _ => 0)), gI g q15 13 ((fun _ => 0)), gI g q23 13 ((fun _ => 0))] := hD
  refine lv_aload_n hx hb d_TT_init_28 rfl (lv_at hl 0 rfl) ?_
  refine lv_bipush (v := nI 13) hx hb d_TT_init_29 (by decide) ?_
  refine gx_newa 0 (ty := .int) (N' := 13) (a0 := (13, .inl (fun _ => 0))) hx hb (hts _ wd_55) rfl hG rfl hP hD hS hA (fun _ => rfl) (by decide) (by decide) (by decide) (Nat.le_of_ble_eq_true rfl) (by decide) d_TT_init_31 (fun q31 H hP hD hS => ?_)
  have hP : va_P g.1 gx_cl [gJ h0 1 [.ref q7, .ref q15, .ref q23, .null, .null, .int (nI 0)], gI g q7 13 ((fun _ => 0)), gI g q15 13 ((fun _ => 0)), gI g q23 13 ((fun _ => 0)), gI g q31 13 ((fun _ => 0))] H := hP
  have hD : va_D A [gJ h0 1 [.ref q7, .ref q15, .ref q23, .null, .null, .int (nI 0)], gI g q7 13 ((fun _ => 0)), gI g q15 13 ((fun _ => 0)), gI g q23 13 ((fun _ => 0)), gI g q31 13 ((fun _ => 0))] := hD
  refine W.widen (k := 4) (n := 52) (by omega) (by omega) ?_
  refine va_putF (D := g.1) (own := R_TT) (ref := R_TT) (ci := 1) (v := .ref q31) (ty := .array (.int)) (C := R_TT) (T := F_TT) (N := 6) hx hb hts in_TT t_TT t_TT_ok n_TT hown hG.1 hP hD hS 0 rfl rfl 3 (by decide) (hts _ wd_35) (fun _ h9 => h9) rfl hnm rfl (by decide +kernel) rfl rfl (Nat.le_of_ble_eq_true rfl) d_TT_init_33 (fun H locs hP hD hS => ?_)
  have hP : va_P g.1 gx_cl [gJ h0 1 [.ref q7, .ref q15, .ref q23, .ref q31, .null, .int (nI 0)], gI g q7 13 ((fun _ => 0)), gI g q15 13 ((fun _ => 0)), gI g q23 13 ((fun _ => 0)), gI g q31 13 ((fun _ => 0))] H := hP
  have hD : va_D A [gJ h0 1 [.ref q7, .ref q15, .ref q23, .ref q31, .null, .int (nI 0)], gI g q7 13 ((fun _ => 0)), gI g q15 13 ((fun _ => 0)), gI g q23 13 ((fun _ => 0)), gI g q31 13 ((fun _ => 0))] := hD
  refine lv_aload_n hx hb d_TT_init_36 rfl (lv_at hl 0 rfl) ?_
  refine lv_bipush (v := nI 13) hx hb d_TT_init_37 (by decide) ?_
  refine gx_newa 1 (ty := .boolean) (N' := 13) (a0 := (13, .inl (fun _ => 0))) hx hb (hts _ wd_56) rfl hG rfl hP hD hS hA (fun _ => rfl) (by decide) (by decide) (by decide) (Nat.le_of_ble_eq_true rfl) (by decide) d_TT_init_39 (fun q39 H hP hD hS => ?_)
  have hP : va_P g.1 gx_cl [gJ h0 1 [.ref q7, .ref q15, .ref q23, .ref q31, .null, .int (nI 0)], gI g q7 13 ((fun _ => 0)), gI g q15 13 ((fun _ => 0)), gI g q23 13 ((fun _ => 0)), gI g q31 13 ((fun _ => 0)), gZ g q39 13 ((fun _ => 0))] H := hP
  have hD : va_D A [gJ h0 1 [.ref q7, .ref q15, .ref q23, .ref q31, .null, .int (nI 0)], gI g q7 13 ((fun _ => 0)), gI g q15 13 ((fun _ => 0)), gI g q23 13 ((fun _ => 0)), gI g q31 13 ((fun _ => 0)), gZ g q39 13 ((fun _ => 0))] := hD
  refine W.widen (k := 5) (n := 65) (by omega) (by omega) ?_
  refine va_putF (D := g.1) (own := R_TT) (ref := R_TT) (ci := 1) (v := .ref q39) (ty := .array (.boolean)) (C := R_TT) (T := F_TT) (N := 6) hx hb hts in_TT t_TT t_TT_ok n_TT hown hG.1 hP hD hS 0 rfl rfl 4 (by decide) (hts _ wd_36) (fun _ h9 => h9) rfl hnm rfl (by decide +kernel) rfl rfl (Nat.le_of_ble_eq_true rfl) d_TT_init_41 (fun H locs hP hD hS => ?_)
  have hP : va_P g.1 gx_cl [gJ h0 1 [.ref q7, .ref q15, .ref q23, .ref q31, .ref q39, .int (nI 0)], gI g q7 13 ((fun _ => 0)), gI g q15 13 ((fun _ => 0)), gI g q23 13 ((fun _ => 0)), gI g q31 13 ((fun _ => 0)), gZ g q39 13 ((fun _ => 0))] H := hP
  have hD : va_D A [gJ h0 1 [.ref q7, .ref q15, .ref q23, .ref q31, .ref q39, .int (nI 0)], gI g q7 13 ((fun _ => 0)), gI g q15 13 ((fun _ => 0)), gI g q23 13 ((fun _ => 0)), gI g q31 13 ((fun _ => 0)), gZ g q39 13 ((fun _ => 0))] := hD
  refine W.widen (k := 5) (n := 65) (by decide) (by decide) ?_
  exact gc_retn (u := fun k => [q7, q15, q23, q31, q39].getD k 0) (Wf := fun t => [gJ h0 1 [.ref (t 0), .ref (t 1), .ref (t 2), .ref (t 3), .ref (t 4), .int (nI 0)], gI g (t 0) 13 (fun _ => 0), gI g (t 1) 13 (fun _ => 0), gI g (t 2) 13 (fun _ => 0), gI g (t 3) 13 (fun _ => 0), gZ g (t 4) 13 (fun _ => 0)]) (post := fun _ => True) hx hb hr hlk (trivial) hP hD hS d_TT_init_44
