set_option maxHeartbeats 4000000 in
set_option maxRecDepth 100000 in
theorem c_VT_has {g : gG} {ad so sw : Nat → Nat} {I : Nat → Nat → Int32} {n v : Nat} {us : Nat → Nat} {ct : Nat → Nat → Int64} {x : Int32} {l : Launch} (hv20 : v ≤ 20) :
    gc_RO l y_VT_has (gx_ws y_VT_has b_VT_has 2 (some .boolean)) 0 0 g [.ref (ad 8), .int x] (cW g ad so sw I n v us ct) (fun r => ∃ z, r = mt_b z ∧ (z = true ↔ ∃ j, j < v ∧ x = nI j)) := by
  refine gx_body (by decide) (Nat.le_of_ble_eq_true rfl) ?_
  intro p e s m below meth c ls hAt hB hl
  obtain ⟨hx, hb, hml, hown, hts, hr, hlk, hnm⟩ := hAt
  have hown : s.vm.findClass R_VT = some m.cls := hown
  obtain ⟨hP, hG⟩ := hB
  have hl : lv_has ls 2 [(0, .ref (ad 8)), (1, .int x)] := hl
  refine lv_iload_n hx hb d_VT_has_0 rfl (lv_at hl 1 rfl) ?_
  refine lv_if_lt (tgt := 16) hx hb d_VT_has_1 (by decide) (fun hc1 => ?_) (fun hc1 => ?_)
  · ---- 1T
    refine lv_iconst (v := nI 0) hx hb d_VT_has_16 (by decide) ?_
    exact gc_retz (v := false) (post := fun r => ∃ z, r = mt_b z ∧ (z = true ↔ ∃ j, j < v ∧ x = nI j)) hx hb hr hlk (⟨false, rfl, (fun h => by cases h), (fun ⟨j, h1, h2⟩ => absurd hc1 (by rw [h2]; exact nI_pos (by omega)))⟩) d_VT_has_17
  · ---- 1F
    refine lv_iload_n hx hb d_VT_has_4 rfl (lv_at hl 1 rfl) ?_
    refine lv_aload_n hx hb d_VT_has_5 rfl (lv_at hl 0 rfl) ?_
    refine va_get (D := g.1) (own := R_VT) (ref := R_VT) (ci := 3) (v := .int (nI v)) (C := R_VT) (T := F_VT) (N := 8) hx hb hts in_VT hown hG.1 hP 8 rfl rfl 4 (by decide) (hts _ wd_125) (fun _ h9 => h9) rfl d_VT_has_6 ?_
    refine lv_icmp_ge (tgt := 16) hx hb d_VT_has_9 (by decide) (fun hc9 => ?_) (fun hc9 => ?_)
    · ---- 1F 9T
      refine lv_iconst (v := nI 0) hx hb d_VT_has_16 (by decide) ?_
      exact gc_retz (v := false) (post := fun r => ∃ z, r = mt_b z ∧ (z = true ↔ ∃ j, j < v ∧ x = nI j)) hx hb hr hlk (⟨false, rfl, (fun h => by cases h), (fun ⟨j, h1, h2⟩ => absurd hc9 (by rw [h2]; exact nI_ge h1 (by omega)))⟩) d_VT_has_17
    · ---- 1F 9F
      refine lv_iconst (v := nI 1) hx hb d_VT_has_12 (by decide) ?_
      refine lv_goto (tgt := 17) hx hb d_VT_has_13 (by decide) ?_
      exact gc_retz (v := true) (post := fun r => ∃ z, r = mt_b z ∧ (z = true ↔ ∃ j, j < v ∧ x = nI j)) hx hb hr hlk (⟨true, rfl, (fun _ => mt_has_t hc1 hc9), (fun _ => rfl)⟩) d_VT_has_17

set_option maxHeartbeats 4000000 in
set_option maxRecDepth 100000 in
theorem c_VT_add {g : gG} {ad so sw : Nat → Nat} {I : Nat → Nat → Int32} {n v : Nat} {us : Nat → Nat} {ct : Nat → Nat → Int64} {kk x y lv : Nat} {l : Launch} (hv20 : v < 20) :
    gc_RW (S := Nat → Nat → Int32) l y_VT_add (gx_ws y_VT_add b_VT_add 6 (some .int)) 0 0 g [.ref (ad 8), .int (nI kk), .int (nI x), .int (nI y), .int (nI lv)] (cW g ad so sw I n v us ct) (fun (u : Nat → Nat → Int32) => cW g ad so sw u n (v + 1) us ct) (fun r (u : Nat → Nat → Int32) => r = nI v ∧ mt_VN I v kk x y lv u) := by
  refine gx_body (by decide) (Nat.le_of_ble_eq_true rfl) ?_
  intro p e s m below meth c ls hAt hB hl
  obtain ⟨hx, hb, hml, hown, hts, hr, hlk, hnm⟩ := hAt
  have hown : s.vm.findClass R_VT = some m.cls := hown
  obtain ⟨⟨hP, hG⟩, hD0⟩ := hB
  have hD := gx_D.self hD0
  have hS : va_S (gx_in (cW g ad so sw I n v us ct)) s.heap s.heap [] := va_S.rf
  have hl : lv_has ls 6 [(0, .ref (ad 8)), (1, .int (nI kk)), (2, .int (nI x)), (3, .int (nI y)), (4, .int (nI lv))] := hl
  refine lv_aload_n hx hb d_VT_add_0 rfl (lv_at hl 0 rfl) ?_
  refine va_get (D := g.1) (own := R_VT) (ref := R_VT) (ci := 3) (v := .int (nI v)) (C := R_VT) (T := F_VT) (N := 8) hx hb hts in_VT hown hG.1 hP 8 rfl rfl 4 (by decide) (hts _ wd_125) (fun _ h9 => h9) rfl d_VT_add_1 ?_
  refine lv_istore (lv' := [(5, .int (nI v)), (0, .ref (ad 8)), (1, .int (nI kk)), (2, .int (nI x)), (3, .int (nI y)), (4, .int (nI lv))]) hx hb d_VT_add_4 hl (by decide) rfl (fun ls hl => ?_)
  refine lv_aload_n hx hb d_VT_add_6 rfl (lv_at hl 1 rfl) ?_
  refine va_get (D := g.1) (own := R_VT) (ref := R_VT) (ci := 3) (v := .ref (ad 9)) (C := R_VT) (T := F_VT) (N := 8) hx hb hts in_VT hown hG.1 hP 8 rfl rfl 0 (by decide) (hts _ wd_120) (fun _ h9 => h9) rfl d_VT_add_7 ?_
  refine lv_iload hx hb d_VT_add_10 (lv_at hl 0 rfl) ?_
  refine lv_iload_n hx hb d_VT_add_12 rfl (lv_at hl 2 rfl) ?_
  refine va_iast hx hb hG.1 hP hD hS 9 0 rfl rfl (vp_in_nI (by omega) (by decide)) d_VT_add_13 (fun H locs hP hD hS => ?_)
  rw [nI_clamp (by omega)] at hP hD
  have hP : va_P g.1 gx_cl (cW g ad so sw (va_up I 5 (upd (I 5) v (nI kk))) n v us ct) H := hP
  have hD : va_D (gx_in (cW g ad so sw I n v us ct)) (cW g ad so sw (va_up I 5 (upd (I 5) v (nI kk))) n v us ct) := hD
  refine lv_aload_n hx hb d_VT_add_14 rfl (lv_at hl 1 rfl) ?_
  refine va_get (D := g.1) (own := R_VT) (ref := R_VT) (ci := 3) (v := .ref (ad 10)) (C := R_VT) (T := F_VT) (N := 8) hx hb hts in_VT hown hG.1 hP 8 rfl rfl 1 (by decide) (hts _ wd_121) (fun _ h9 => h9) rfl d_VT_add_15 ?_
  refine lv_iload hx hb d_VT_add_18 (lv_at hl 0 rfl) ?_
  refine lv_iload_n hx hb d_VT_add_20 rfl (lv_at hl 3 rfl) ?_
  refine va_iast hx hb hG.1 hP hD hS 10 0 rfl rfl (vp_in_nI (by omega) (by decide)) d_VT_add_21 (fun H locs hP hD hS => ?_)
  rw [nI_clamp (by omega)] at hP hD
  have hP : va_P g.1 gx_cl (cW g ad so sw (va_up (va_up I 5 (upd (I 5) v (nI kk))) 6 (upd ((va_up I 5 (upd (I 5) v (nI kk))) 6) v (nI x))) n v us ct) H := hP
  have hD : va_D (gx_in (cW g ad so sw I n v us ct)) (cW g ad so sw (va_up (va_up I 5 (upd (I 5) v (nI kk))) 6 (upd ((va_up I 5 (upd (I 5) v (nI kk))) 6) v (nI x))) n v us ct) := hD
  refine lv_aload_n hx hb d_VT_add_22 rfl (lv_at hl 1 rfl) ?_
  refine va_get (D := g.1) (own := R_VT) (ref := R_VT) (ci := 3) (v := .ref (ad 11)) (C := R_VT) (T := F_VT) (N := 8) hx hb hts in_VT hown hG.1 hP 8 rfl rfl 2 (by decide) (hts _ wd_122) (fun _ h9 => h9) rfl d_VT_add_23 ?_
  refine lv_iload hx hb d_VT_add_26 (lv_at hl 0 rfl) ?_
  refine lv_iload_n hx hb d_VT_add_28 rfl (lv_at hl 4 rfl) ?_
  refine va_iast hx hb hG.1 hP hD hS 11 0 rfl rfl (vp_in_nI (by omega) (by decide)) d_VT_add_29 (fun H locs hP hD hS => ?_)
  rw [nI_clamp (by omega)] at hP hD
  have hP : va_P g.1 gx_cl (cW g ad so sw (va_up (va_up (va_up I 5 (upd (I 5) v (nI kk))) 6 (upd ((va_up I 5 (upd (I 5) v (nI kk))) 6) v (nI x))) 7 (upd ((va_up (va_up I 5 (upd (I 5) v (nI kk))) 6 (upd ((va_up I 5 (upd (I 5) v (nI kk))) 6) v (nI x))) 7) v (nI y))) n v us ct) H := hP
  have hD : va_D (gx_in (cW g ad so sw I n v us ct)) (cW g ad so sw (va_up (va_up (va_up I 5 (upd (I 5) v (nI kk))) 6 (upd ((va_up I 5 (upd (I 5) v (nI kk))) 6) v (nI x))) 7 (upd ((va_up (va_up I 5 (upd (I 5) v (nI kk))) 6 (upd ((va_up I 5 (upd (I 5) v (nI kk))) 6) v (nI x))) 7) v (nI y))) n v us ct) := hD
  refine lv_aload_n hx hb d_VT_add_30 rfl (lv_at hl 1 rfl) ?_
  refine va_get (D := g.1) (own := R_VT) (ref := R_VT) (ci := 3) (v := .ref (ad 12)) (C := R_VT) (T := F_VT) (N := 8) hx hb hts in_VT hown hG.1 hP 8 rfl rfl 3 (by decide) (hts _ wd_123) (fun _ h9 => h9) rfl d_VT_add_31 ?_
  refine lv_iload hx hb d_VT_add_34 (lv_at hl 0 rfl) ?_
  refine lv_iload hx hb d_VT_add_36 (lv_at hl 5 rfl) ?_
  refine va_iast hx hb hG.1 hP hD hS 12 0 rfl rfl (vp_in_nI (by omega) (by decide)) d_VT_add_38 (fun H locs hP hD hS => ?_)
  rw [nI_clamp (by omega)] at hP hD
  have hP : va_P g.1 gx_cl (cW g ad so sw (va_up (va_up (va_up (va_up I 5 (upd (I 5) v (nI kk))) 6 (upd ((va_up I 5 (upd (I 5) v (nI kk))) 6) v (nI x))) 7 (upd ((va_up (va_up I 5 (upd (I 5) v (nI kk))) 6 (upd ((va_up I 5 (upd (I 5) v (nI kk))) 6) v (nI x))) 7) v (nI y))) 8 (upd ((va_up (va_up (va_up I 5 (upd (I 5) v (nI kk))) 6 (upd ((va_up I 5 (upd (I 5) v (nI kk))) 6) v (nI x))) 7 (upd ((va_up (va_up I 5 (upd (I 5) v (nI kk))) 6 (upd ((va_up I 5 (upd (I 5) v (nI kk))) 6) v (nI x))) 7) v (nI y))) 8) v (nI lv))) n v us ct) H := hP
  have hD : va_D (gx_in (cW g ad so sw I n v us ct)) (cW g ad so sw (va_up (va_up (va_up (va_up I 5 (upd (I 5) v (nI kk))) 6 (upd ((va_up I 5 (upd (I 5) v (nI kk))) 6) v (nI x))) 7 (upd ((va_up (va_up I 5 (upd (I 5) v (nI kk))) 6 (upd ((va_up I 5 (upd (I 5) v (nI kk))) 6) v (nI x))) 7) v (nI y))) 8 (upd ((va_up (va_up (va_up I 5 (upd (I 5) v (nI kk))) 6 (upd ((va_up I 5 (upd (I 5) v (nI kk))) 6) v (nI x))) 7 (upd ((va_up (va_up I 5 (upd (I 5) v (nI kk))) 6 (upd ((va_up I 5 (upd (I 5) v (nI kk))) 6) v (nI x))) 7) v (nI y))) 8) v (nI lv))) n v us ct) := hD
  refine lv_aload_n hx hb d_VT_add_39 rfl (lv_at hl 1 rfl) ?_
  refine lv_dup hx hb d_VT_add_40 rfl ?_
  refine va_get (D := g.1) (own := R_VT) (ref := R_VT) (ci := 3) (v := .int (nI v)) (C := R_VT) (T := F_VT) (N := 8) hx hb hts in_VT hown hG.1 hP 8 rfl rfl 4 (by decide) (hts _ wd_125) (fun _ h9 => h9) rfl d_VT_add_41 ?_
  refine lv_iconst (v := nI 1) hx hb d_VT_add_44 (by decide) ?_
  refine lv_iadd hx hb d_VT_add_45 ?_
  refine mt_ri (y := nI (v + 1)) (nI_add _ _) ?_
  refine va_put (D := g.1) (own := R_VT) (ref := R_VT) (ci := 3) (v := .int (nI (v + 1))) (ty := .int) (C := R_VT) (T := F_VT) (N := 8) hx hb hts in_VT t_VT t_VT_ok n_VT hown hG.1 hP hD hS 8 rfl rfl 4 (by decide) (hts _ wd_125) (fun _ h9 => h9) rfl (by decide +kernel) rfl rfl (Nat.le_of_ble_eq_true rfl) d_VT_add_46 (fun H locs hP hD hS => ?_)
  have hP : va_P g.1 gx_cl (cW g ad so sw (va_up (va_up (va_up (va_up I 5 (upd (I 5) v (nI kk))) 6 (upd ((va_up I 5 (upd (I 5) v (nI kk))) 6) v (nI x))) 7 (upd ((va_up (va_up I 5 (upd (I 5) v (nI kk))) 6 (upd ((va_up I 5 (upd (I 5) v (nI kk))) 6) v (nI x))) 7) v (nI y))) 8 (upd ((va_up (va_up (va_up I 5 (upd (I 5) v (nI kk))) 6 (upd ((va_up I 5 (upd (I 5) v (nI kk))) 6) v (nI x))) 7 (upd ((va_up (va_up I 5 (upd (I 5) v (nI kk))) 6 (upd ((va_up I 5 (upd (I 5) v (nI kk))) 6) v (nI x))) 7) v (nI y))) 8) v (nI lv))) n (v + 1) us ct) H := hP
  have hD : va_D (gx_in (cW g ad so sw I n v us ct)) (cW g ad so sw (va_up (va_up (va_up (va_up I 5 (upd (I 5) v (nI kk))) 6 (upd ((va_up I 5 (upd (I 5) v (nI kk))) 6) v (nI x))) 7 (upd ((va_up (va_up I 5 (upd (I 5) v (nI kk))) 6 (upd ((va_up I 5 (upd (I 5) v (nI kk))) 6) v (nI x))) 7) v (nI y))) 8 (upd ((va_up (va_up (va_up I 5 (upd (I 5) v (nI kk))) 6 (upd ((va_up I 5 (upd (I 5) v (nI kk))) 6) v (nI x))) 7 (upd ((va_up (va_up I 5 (upd (I 5) v (nI kk))) 6 (upd ((va_up I 5 (upd (I 5) v (nI kk))) 6) v (nI x))) 7) v (nI y))) 8) v (nI lv))) n (v + 1) us ct) := hD
  refine lv_iload hx hb d_VT_add_49 (lv_at hl 0 rfl) ?_
  exact gc_retwi (u := (va_up (va_up (va_up (va_up I 5 (upd (I 5) v (nI kk))) 6 (upd ((va_up I 5 (upd (I 5) v (nI kk))) 6) v (nI x))) 7 (upd ((va_up (va_up I 5 (upd (I 5) v (nI kk))) 6 (upd ((va_up I 5 (upd (I 5) v (nI kk))) 6) v (nI x))) 7) v (nI y))) 8 (upd ((va_up (va_up (va_up I 5 (upd (I 5) v (nI kk))) 6 (upd ((va_up I 5 (upd (I 5) v (nI kk))) 6) v (nI x))) 7 (upd ((va_up (va_up I 5 (upd (I 5) v (nI kk))) 6 (upd ((va_up I 5 (upd (I 5) v (nI kk))) 6) v (nI x))) 7) v (nI y))) 8) v (nI lv)))) (Wf := fun (u : Nat → Nat → Int32) => cW g ad so sw u n (v + 1) us ct) (post := fun r (u : Nat → Nat → Int32) => r = nI v ∧ mt_VN I v kk x y lv u) hx hb hr hlk (⟨rfl, mt_VN_of⟩) hP hD hS d_VT_add_51
