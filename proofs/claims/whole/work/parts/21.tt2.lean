set_option maxHeartbeats 4000000 in
set_option maxRecDepth 100000 in
theorem c_TT_add {g : gG} {ad so sw : Nat → Nat} {I : Nat → Nat → Int32} {n v : Nat} {us : Nat → Nat} {ct : Nat → Nat → Int64} {dp : Nat → Nat} {fc : Nat → Bool} {kk x y : Nat} {l : Launch} (hE : mt_TE I n dp fc) (hn12 : n ≤ 12) (hdp : ∀ t, t < n → dp t ≤ 5) (hk6 : kk ≤ 6) (hxy : kk ≠ 0 → kk ≠ 6 → x < n ∧ y < n) :
    gc_RW (S := Nat → Nat → Int32) l y_TT_add (gx_ws y_TT_add b_TT_add 5 (some .int)) 2 44 g [.ref (ad 1), .int (nI kk), .int (nI x), .int (nI y)] (cW g ad so sw I n v us ct) (fun (u : Nat → Nat → Int32) => cW g ad so sw u (n + 1) v us ct) (fun r (u : Nat → Nat → Int32) => r = nI n ∧ mt_IN I n kk x y (mt_dd kk (dp x) (dp y)) (mt_ic kk (fc x) (fc y)) u) := by
  refine gx_body (by decide) (Nat.le_of_ble_eq_true rfl) ?_
  intro p e s m below meth c ls hAt hB hl
  obtain ⟨hx, hb, hml, hown, hts, hr, hlk, hnm⟩ := hAt
  have hown : s.vm.findClass R_TT = some m.cls := hown
  obtain ⟨⟨hP, hG⟩, hD0⟩ := hB
  have hD := gx_D.self hD0
  have hS : va_S (gx_in (cW g ad so sw I n v us ct)) s.heap s.heap [] := va_S.rf
  have hl : lv_has ls 5 [(0, .ref (ad 1)), (1, .int (nI kk)), (2, .int (nI x)), (3, .int (nI y))] := hl
  refine lv_aload_n hx hb d_TT_add_0 rfl (lv_at hl 0 rfl) ?_
  refine va_get (D := g.1) (own := R_TT) (ref := R_TT) (ci := 1) (v := .int (nI n)) (C := R_TT) (T := F_TT) (N := 6) hx hb hts in_TT hown hG.1 hP 1 rfl rfl 5 (by decide) (hts _ wd_39) (fun _ h9 => h9) rfl d_TT_add_1 ?_
  refine lv_istore (lv' := [(4, .int (nI n)), (0, .ref (ad 1)), (1, .int (nI kk)), (2, .int (nI x)), (3, .int (nI y))]) hx hb d_TT_add_4 hl (by decide) rfl (fun ls hl => ?_)
  refine lv_aload_n hx hb d_TT_add_6 rfl (lv_at hl 1 rfl) ?_
  refine va_get (D := g.1) (own := R_TT) (ref := R_TT) (ci := 1) (v := .ref (ad 2)) (C := R_TT) (T := F_TT) (N := 6) hx hb hts in_TT hown hG.1 hP 1 rfl rfl 0 (by decide) (hts _ wd_30) (fun _ h9 => h9) rfl d_TT_add_7 ?_
  refine lv_iload hx hb d_TT_add_10 (lv_at hl 0 rfl) ?_
  refine lv_iload_n hx hb d_TT_add_12 rfl (lv_at hl 2 rfl) ?_
  refine va_iast hx hb hG.1 hP hD hS 2 0 rfl rfl (vp_in_nI (by omega) (by decide)) d_TT_add_13 (fun H locs hP hD hS => ?_)
  rw [nI_clamp (by omega)] at hP hD
  have hP : va_P g.1 gx_cl (cW g ad so sw (va_up I 0 (upd (I 0) n (nI kk))) n v us ct) H := hP
  have hD : va_D (gx_in (cW g ad so sw I n v us ct)) (cW g ad so sw (va_up I 0 (upd (I 0) n (nI kk))) n v us ct) := hD
  refine lv_aload_n hx hb d_TT_add_14 rfl (lv_at hl 1 rfl) ?_
  refine va_get (D := g.1) (own := R_TT) (ref := R_TT) (ci := 1) (v := .ref (ad 3)) (C := R_TT) (T := F_TT) (N := 6) hx hb hts in_TT hown hG.1 hP 1 rfl rfl 1 (by decide) (hts _ wd_31) (fun _ h9 => h9) rfl d_TT_add_15 ?_
  refine lv_iload hx hb d_TT_add_18 (lv_at hl 0 rfl) ?_
  refine lv_iload_n hx hb d_TT_add_20 rfl (lv_at hl 3 rfl) ?_
  refine va_iast hx hb hG.1 hP hD hS 3 0 rfl rfl (vp_in_nI (by omega) (by decide)) d_TT_add_21 (fun H locs hP hD hS => ?_)
  rw [nI_clamp (by omega)] at hP hD
  have hP : va_P g.1 gx_cl (cW g ad so sw (va_up (va_up I 0 (upd (I 0) n (nI kk))) 1 (upd ((va_up I 0 (upd (I 0) n (nI kk))) 1) n (nI x))) n v us ct) H := hP
  have hD : va_D (gx_in (cW g ad so sw I n v us ct)) (cW g ad so sw (va_up (va_up I 0 (upd (I 0) n (nI kk))) 1 (upd ((va_up I 0 (upd (I 0) n (nI kk))) 1) n (nI x))) n v us ct) := hD
  refine lv_aload_n hx hb d_TT_add_22 rfl (lv_at hl 1 rfl) ?_
  refine va_get (D := g.1) (own := R_TT) (ref := R_TT) (ci := 1) (v := .ref (ad 4)) (C := R_TT) (T := F_TT) (N := 6) hx hb hts in_TT hown hG.1 hP 1 rfl rfl 2 (by decide) (hts _ wd_33) (fun _ h9 => h9) rfl d_TT_add_23 ?_
  refine lv_iload hx hb d_TT_add_26 (lv_at hl 0 rfl) ?_
  refine lv_iload_n hx hb d_TT_add_28 rfl (lv_at hl 4 rfl) ?_
  refine va_iast hx hb hG.1 hP hD hS 4 0 rfl rfl (vp_in_nI (by omega) (by decide)) d_TT_add_29 (fun H locs hP hD hS => ?_)
  rw [nI_clamp (by omega)] at hP hD
  have hP : va_P g.1 gx_cl (cW g ad so sw (va_up (va_up (va_up I 0 (upd (I 0) n (nI kk))) 1 (upd ((va_up I 0 (upd (I 0) n (nI kk))) 1) n (nI x))) 2 (upd ((va_up (va_up I 0 (upd (I 0) n (nI kk))) 1 (upd ((va_up I 0 (upd (I 0) n (nI kk))) 1) n (nI x))) 2) n (nI y))) n v us ct) H := hP
  have hD : va_D (gx_in (cW g ad so sw I n v us ct)) (cW g ad so sw (va_up (va_up (va_up I 0 (upd (I 0) n (nI kk))) 1 (upd ((va_up I 0 (upd (I 0) n (nI kk))) 1) n (nI x))) 2 (upd ((va_up (va_up I 0 (upd (I 0) n (nI kk))) 1 (upd ((va_up I 0 (upd (I 0) n (nI kk))) 1) n (nI x))) 2) n (nI y))) n v us ct) := hD
  refine lv_aload_n hx hb d_TT_add_30 rfl (lv_at hl 1 rfl) ?_
  refine va_get (D := g.1) (own := R_TT) (ref := R_TT) (ci := 1) (v := .ref (ad 5)) (C := R_TT) (T := F_TT) (N := 6) hx hb hts in_TT hown hG.1 hP 1 rfl rfl 3 (by decide) (hts _ wd_35) (fun _ h9 => h9) rfl d_TT_add_31 ?_
  refine lv_iload hx hb d_TT_add_34 (lv_at hl 0 rfl) ?_
  refine lv_aload_n hx hb d_TT_add_36 rfl (lv_at hl 1 rfl) ?_
  refine lv_iload_n hx hb d_TT_add_37 rfl (lv_at hl 2 rfl) ?_
  refine lv_iload_n hx hb d_TT_add_38 rfl (lv_at hl 3 rfl) ?_
  refine lv_iload_n hx hb d_TT_add_39 rfl (lv_at hl 4 rfl) ?_
  refine vp_callSi (va_runV (own := R_TT) (As := [.int (nI kk), .int (nI x), .int (nI y)]) (rest := [.int (nI n), .ref (ad 5)]) ⟨hx, hb, hml, hown, hts⟩ (c_TT_depthOf (l := l) (g := g) (ad := ad) (so := so) (sw := sw) (I := (va_up (va_up (va_up I 0 (upd (I 0) n (nI kk))) 1 (upd ((va_up I 0 (upd (I 0) n (nI kk))) 1) n (nI x))) 2 (upd ((va_up (va_up I 0 (upd (I 0) n (nI kk))) 1 (upd ((va_up I 0 (upd (I 0) n (nI kk))) 1) n (nI x))) 2) n (nI y)))) (n := n) (v := v) (us := us) (ct := ct) (dp := dp) (fc := fc) (kk := kk) (x := x) (y := y) (show mt_TE _ _ _ _ from hE) (by omega) hdp hk6 hxy) (cwV 3 hts (gx_goodV wd_170 wd_171 wd_172 wd_3 wd_173) rfl rfl rfl (by decide +kernel) ⟨Nat.le_of_ble_eq_true rfl, Nat.le_of_ble_eq_true rfl⟩) (gc_preV (gc_recv hP hG (ci := 1) rfl (q0 := 1) rfl) hP hG) rfl rfl hl.1 rfl (lv_room (Nat.le_of_ble_eq_true rfl)) d_TT_add_40 ⟨Nat.le_refl _, Nat.le_refl _⟩).run (fun r hr40 => ?_)
  subst hr40
  refine va_iast hx hb hG.1 hP hD hS 5 0 rfl rfl (vp_in_nI (by omega) (by decide)) d_TT_add_43 (fun H locs hP hD hS => ?_)
  rw [nI_clamp (by omega)] at hP hD
  have hP : va_P g.1 gx_cl (cW g ad so sw (va_up (va_up (va_up (va_up I 0 (upd (I 0) n (nI kk))) 1 (upd ((va_up I 0 (upd (I 0) n (nI kk))) 1) n (nI x))) 2 (upd ((va_up (va_up I 0 (upd (I 0) n (nI kk))) 1 (upd ((va_up I 0 (upd (I 0) n (nI kk))) 1) n (nI x))) 2) n (nI y))) 3 (upd ((va_up (va_up (va_up I 0 (upd (I 0) n (nI kk))) 1 (upd ((va_up I 0 (upd (I 0) n (nI kk))) 1) n (nI x))) 2 (upd ((va_up (va_up I 0 (upd (I 0) n (nI kk))) 1 (upd ((va_up I 0 (upd (I 0) n (nI kk))) 1) n (nI x))) 2) n (nI y))) 3) n (nI (mt_dd kk (dp x) (dp y))))) n v us ct) H := hP
  have hD : va_D (gx_in (cW g ad so sw I n v us ct)) (cW g ad so sw (va_up (va_up (va_up (va_up I 0 (upd (I 0) n (nI kk))) 1 (upd ((va_up I 0 (upd (I 0) n (nI kk))) 1) n (nI x))) 2 (upd ((va_up (va_up I 0 (upd (I 0) n (nI kk))) 1 (upd ((va_up I 0 (upd (I 0) n (nI kk))) 1) n (nI x))) 2) n (nI y))) 3 (upd ((va_up (va_up (va_up I 0 (upd (I 0) n (nI kk))) 1 (upd ((va_up I 0 (upd (I 0) n (nI kk))) 1) n (nI x))) 2 (upd ((va_up (va_up I 0 (upd (I 0) n (nI kk))) 1 (upd ((va_up I 0 (upd (I 0) n (nI kk))) 1) n (nI x))) 2) n (nI y))) 3) n (nI (mt_dd kk (dp x) (dp y))))) n v us ct) := hD
  refine lv_aload_n hx hb d_TT_add_44 rfl (lv_at hl 1 rfl) ?_
  refine va_get (D := g.1) (own := R_TT) (ref := R_TT) (ci := 1) (v := .ref (ad 6)) (C := R_TT) (T := F_TT) (N := 6) hx hb hts in_TT hown hG.1 hP 1 rfl rfl 4 (by decide) (hts _ wd_36) (fun _ h9 => h9) rfl d_TT_add_45 ?_
  refine lv_iload hx hb d_TT_add_48 (lv_at hl 0 rfl) ?_
  refine lv_aload_n hx hb d_TT_add_50 rfl (lv_at hl 1 rfl) ?_
  refine lv_iload_n hx hb d_TT_add_51 rfl (lv_at hl 2 rfl) ?_
  refine lv_iload_n hx hb d_TT_add_52 rfl (lv_at hl 3 rfl) ?_
  refine lv_iload_n hx hb d_TT_add_53 rfl (lv_at hl 4 rfl) ?_
  refine vp_callSi (va_runV (own := R_TT) (As := [.int (nI kk), .int (nI x), .int (nI y)]) (rest := [.int (nI n), .ref (ad 6)]) ⟨hx, hb, hml, hown, hts⟩ (c_TT_makesInterface (l := l) (g := g) (ad := ad) (so := so) (sw := sw) (I := (va_up (va_up (va_up (va_up I 0 (upd (I 0) n (nI kk))) 1 (upd ((va_up I 0 (upd (I 0) n (nI kk))) 1) n (nI x))) 2 (upd ((va_up (va_up I 0 (upd (I 0) n (nI kk))) 1 (upd ((va_up I 0 (upd (I 0) n (nI kk))) 1) n (nI x))) 2) n (nI y))) 3 (upd ((va_up (va_up (va_up I 0 (upd (I 0) n (nI kk))) 1 (upd ((va_up I 0 (upd (I 0) n (nI kk))) 1) n (nI x))) 2 (upd ((va_up (va_up I 0 (upd (I 0) n (nI kk))) 1 (upd ((va_up I 0 (upd (I 0) n (nI kk))) 1) n (nI x))) 2) n (nI y))) 3) n (nI (mt_dd kk (dp x) (dp y)))))) (n := n) (v := v) (us := us) (ct := ct) (dp := dp) (fc := fc) (kk := kk) (x := x) (y := y) (mt_TE_3 (show mt_TE _ _ _ _ from hE)) (by omega) hk6 (fun h9 => hxy (by omega) (by omega))) (cwV 3 hts (gx_goodV wd_177 wd_179 ws_1 wd_3 wd_180) rfl rfl rfl (by decide +kernel) ⟨Nat.le_of_ble_eq_true rfl, Nat.le_of_ble_eq_true rfl⟩) (gc_preV (gc_recv hP hG (ci := 1) rfl (q0 := 1) rfl) hP hG) rfl rfl hl.1 rfl (lv_room (Nat.le_of_ble_eq_true rfl)) d_TT_add_54 ⟨Nat.le_refl _, Nat.le_refl _⟩).run (fun r hr54 => ?_)
  subst hr54
  refine va_zast hx hb hG.1 hP hD hS 6 1 rfl rfl (vp_in_nI (by omega) (by decide)) d_TT_add_57 (fun H locs hP hD hS => ?_)
  rw [nI_clamp (by omega)] at hP hD
  rw [mt_narz] at hP hD
  have hP : va_P g.1 gx_cl (cW g ad so sw (va_up (va_up (va_up (va_up (va_up I 0 (upd (I 0) n (nI kk))) 1 (upd ((va_up I 0 (upd (I 0) n (nI kk))) 1) n (nI x))) 2 (upd ((va_up (va_up I 0 (upd (I 0) n (nI kk))) 1 (upd ((va_up I 0 (upd (I 0) n (nI kk))) 1) n (nI x))) 2) n (nI y))) 3 (upd ((va_up (va_up (va_up I 0 (upd (I 0) n (nI kk))) 1 (upd ((va_up I 0 (upd (I 0) n (nI kk))) 1) n (nI x))) 2 (upd ((va_up (va_up I 0 (upd (I 0) n (nI kk))) 1 (upd ((va_up I 0 (upd (I 0) n (nI kk))) 1) n (nI x))) 2) n (nI y))) 3) n (nI (mt_dd kk (dp x) (dp y))))) 4 (upd ((va_up (va_up (va_up (va_up I 0 (upd (I 0) n (nI kk))) 1 (upd ((va_up I 0 (upd (I 0) n (nI kk))) 1) n (nI x))) 2 (upd ((va_up (va_up I 0 (upd (I 0) n (nI kk))) 1 (upd ((va_up I 0 (upd (I 0) n (nI kk))) 1) n (nI x))) 2) n (nI y))) 3 (upd ((va_up (va_up (va_up I 0 (upd (I 0) n (nI kk))) 1 (upd ((va_up I 0 (upd (I 0) n (nI kk))) 1) n (nI x))) 2 (upd ((va_up (va_up I 0 (upd (I 0) n (nI kk))) 1 (upd ((va_up I 0 (upd (I 0) n (nI kk))) 1) n (nI x))) 2) n (nI y))) 3) n (nI (mt_dd kk (dp x) (dp y))))) 4) n (mt_b (mt_ic kk (fc x) (fc y))))) n v us ct) H := hP
  have hD : va_D (gx_in (cW g ad so sw I n v us ct)) (cW g ad so sw (va_up (va_up (va_up (va_up (va_up I 0 (upd (I 0) n (nI kk))) 1 (upd ((va_up I 0 (upd (I 0) n (nI kk))) 1) n (nI x))) 2 (upd ((va_up (va_up I 0 (upd (I 0) n (nI kk))) 1 (upd ((va_up I 0 (upd (I 0) n (nI kk))) 1) n (nI x))) 2) n (nI y))) 3 (upd ((va_up (va_up (va_up I 0 (upd (I 0) n (nI kk))) 1 (upd ((va_up I 0 (upd (I 0) n (nI kk))) 1) n (nI x))) 2 (upd ((va_up (va_up I 0 (upd (I 0) n (nI kk))) 1 (upd ((va_up I 0 (upd (I 0) n (nI kk))) 1) n (nI x))) 2) n (nI y))) 3) n (nI (mt_dd kk (dp x) (dp y))))) 4 (upd ((va_up (va_up (va_up (va_up I 0 (upd (I 0) n (nI kk))) 1 (upd ((va_up I 0 (upd (I 0) n (nI kk))) 1) n (nI x))) 2 (upd ((va_up (va_up I 0 (upd (I 0) n (nI kk))) 1 (upd ((va_up I 0 (upd (I 0) n (nI kk))) 1) n (nI x))) 2) n (nI y))) 3 (upd ((va_up (va_up (va_up I 0 (upd (I 0) n (nI kk))) 1 (upd ((va_up I 0 (upd (I 0) n (nI kk))) 1) n (nI x))) 2 (upd ((va_up (va_up I 0 (upd (I 0) n (nI kk))) 1 (upd ((va_up I 0 (upd (I 0) n (nI kk))) 1) n (nI x))) 2) n (nI y))) 3) n (nI (mt_dd kk (dp x) (dp y))))) 4) n (mt_b (mt_ic kk (fc x) (fc y))))) n v us ct) := hD
  refine lv_aload_n hx hb d_TT_add_58 rfl (lv_at hl 1 rfl) ?_
  refine lv_dup hx hb d_TT_add_59 rfl ?_
  refine va_get (D := g.1) (own := R_TT) (ref := R_TT) (ci := 1) (v := .int (nI n)) (C := R_TT) (T := F_TT) (N := 6) hx hb hts in_TT hown hG.1 hP 1 rfl rfl 5 (by decide) (hts _ wd_39) (fun _ h9 => h9) rfl d_TT_add_60 ?_
  refine lv_iconst (v := nI 1) hx hb d_TT_add_63 (by decide) ?_
  refine lv_iadd hx hb d_TT_add_64 ?_
  refine mt_ri (y := nI (n + 1)) (nI_add _ _) ?_
  refine va_put (D := g.1) (own := R_TT) (ref := R_TT) (ci := 1) (v := .int (nI (n + 1))) (ty := .int) (C := R_TT) (T := F_TT) (N := 6) hx hb hts in_TT t_TT t_TT_ok n_TT hown hG.1 hP hD hS 1 rfl rfl 5 (by decide) (hts _ wd_39) (fun _ h9 => h9) rfl (by decide +kernel) rfl rfl (Nat.le_of_ble_eq_true rfl) d_TT_add_65 (fun H locs hP hD hS => ?_)
  have hP : va_P g.1 gx_cl (cW g ad so sw (va_up (va_up (va_up (va_up (va_up I 0 (upd (I 0) n (nI kk))) 1 (upd ((va_up I 0 (upd (I 0) n (nI kk))) 1) n (nI x))) 2 (upd ((va_up (va_up I 0 (upd (I 0) n (nI kk))) 1 (upd ((va_up I 0 (upd (I 0) n (nI kk))) 1) n (nI x))) 2) n (nI y))) 3 (upd ((va_up (va_up (va_up I 0 (upd (I 0) n (nI kk))) 1 (upd ((va_up I 0 (upd (I 0) n (nI kk))) 1) n (nI x))) 2 (upd ((va_up (va_up I 0 (upd (I 0) n (nI kk))) 1 (upd ((va_up I 0 (upd (I 0) n (nI kk))) 1) n (nI x))) 2) n (nI y))) 3) n (nI (mt_dd kk (dp x) (dp y))))) 4 (upd ((va_up (va_up (va_up (va_up I 0 (upd (I 0) n (nI kk))) 1 (upd ((va_up I 0 (upd (I 0) n (nI kk))) 1) n (nI x))) 2 (upd ((va_up (va_up I 0 (upd (I 0) n (nI kk))) 1 (upd ((va_up I 0 (upd (I 0) n (nI kk))) 1) n (nI x))) 2) n (nI y))) 3 (upd ((va_up (va_up (va_up I 0 (upd (I 0) n (nI kk))) 1 (upd ((va_up I 0 (upd (I 0) n (nI kk))) 1) n (nI x))) 2 (upd ((va_up (va_up I 0 (upd (I 0) n (nI kk))) 1 (upd ((va_up I 0 (upd (I 0) n (nI kk))) 1) n (nI x))) 2) n (nI y))) 3) n (nI (mt_dd kk (dp x) (dp y))))) 4) n (mt_b (mt_ic kk (fc x) (fc y))))) (n + 1) v us ct) H := hP
  have hD : va_D (gx_in (cW g ad so sw I n v us ct)) (cW g ad so sw (va_up (va_up (va_up (va_up (va_up I 0 (upd (I 0) n (nI kk))) 1 (upd ((va_up I 0 (upd (I 0) n (nI kk))) 1) n (nI x))) 2 (upd ((va_up (va_up I 0 (upd (I 0) n (nI kk))) 1 (upd ((va_up I 0 (upd (I 0) n (nI kk))) 1) n (nI x))) 2) n (nI y))) 3 (upd ((va_up (va_up (va_up I 0 (upd (I 0) n (nI kk))) 1 (upd ((va_up I 0 (upd (I 0) n (nI kk))) 1) n (nI x))) 2 (upd ((va_up (va_up I 0 (upd (I 0) n (nI kk))) 1 (upd ((va_up I 0 (upd (I 0) n (nI kk))) 1) n (nI x))) 2) n (nI y))) 3) n (nI (mt_dd kk (dp x) (dp y))))) 4 (upd ((va_up (va_up (va_up (va_up I 0 (upd (I 0) n (nI kk))) 1 (upd ((va_up I 0 (upd (I 0) n (nI kk))) 1) n (nI x))) 2 (upd ((va_up (va_up I 0 (upd (I 0) n (nI kk))) 1 (upd ((va_up I 0 (upd (I 0) n (nI kk))) 1) n (nI x))) 2) n (nI y))) 3 (upd ((va_up (va_up (va_up I 0 (upd (I 0) n (nI kk))) 1 (upd ((va_up I 0 (upd (I 0) n (nI kk))) 1) n (nI x))) 2 (upd ((va_up (va_up I 0 (upd (I 0) n (nI kk))) 1 (upd ((va_up I 0 (upd (I 0) n (nI kk))) 1) n (nI x))) 2) n (nI y))) 3) n (nI (mt_dd kk (dp x) (dp y))))) 4) n (mt_b (mt_ic kk (fc x) (fc y))))) (n + 1) v us ct) := hD
  refine lv_iload hx hb d_TT_add_68 (lv_at hl 0 rfl) ?_
  exact gc_retwi (u := (va_up (va_up (va_up (va_up (va_up I 0 (upd (I 0) n (nI kk))) 1 (upd ((va_up I 0 (upd (I 0) n (nI kk))) 1) n (nI x))) 2 (upd ((va_up (va_up I 0 (upd (I 0) n (nI kk))) 1 (upd ((va_up I 0 (upd (I 0) n (nI kk))) 1) n (nI x))) 2) n (nI y))) 3 (upd ((va_up (va_up (va_up I 0 (upd (I 0) n (nI kk))) 1 (upd ((va_up I 0 (upd (I 0) n (nI kk))) 1) n (nI x))) 2 (upd ((va_up (va_up I 0 (upd (I 0) n (nI kk))) 1 (upd ((va_up I 0 (upd (I 0) n (nI kk))) 1) n (nI x))) 2) n (nI y))) 3) n (nI (mt_dd kk (dp x) (dp y))))) 4 (upd ((va_up (va_up (va_up (va_up I 0 (upd (I 0) n (nI kk))) 1 (upd ((va_up I 0 (upd (I 0) n (nI kk))) 1) n (nI x))) 2 (upd ((va_up (va_up I 0 (upd (I 0) n (nI kk))) 1 (upd ((va_up I 0 (upd (I 0) n (nI kk))) 1) n (nI x))) 2) n (nI y))) 3 (upd ((va_up (va_up (va_up I 0 (upd (I 0) n (nI kk))) 1 (upd ((va_up I 0 (upd (I 0) n (nI kk))) 1) n (nI x))) 2 (upd ((va_up (va_up I 0 (upd (I 0) n (nI kk))) 1 (upd ((va_up I 0 (upd (I 0) n (nI kk))) 1) n (nI x))) 2) n (nI y))) 3) n (nI (mt_dd kk (dp x) (dp y))))) 4) n (mt_b (mt_ic kk (fc x) (fc y)))))) (Wf := fun (u : Nat → Nat → Int32) => cW g ad so sw u (n + 1) v us ct) (post := fun r (u : Nat → Nat → Int32) => r = nI n ∧ mt_IN I n kk x y (mt_dd kk (dp x) (dp y)) (mt_ic kk (fc x) (fc y)) u) hx hb hr hlk (⟨rfl, mt_IN_of⟩) hP hD hS d_TT_add_70

set_option maxHeartbeats 4000000 in
set_option maxRecDepth 100000 in
theorem c_TT_keep {g : gG} {ad so sw : Nat → Nat} {I : Nat → Nat → Int32} {n v : Nat} {us : Nat → Nat} {ct : Nat → Nat → Int64} {x : Nat} {l : Launch} (hn : n ≤ 13) (hx31 : x < 2 ^ 31) :
    gc_RV (S := Unit) l y_TT_keep (gx_ws y_TT_keep b_TT_keep 2 none) 1 21 g [.ref (ad 1), .int (nI x)] (cW g ad so sw I n v us ct) (fun (_ : Unit) => cW g ad so sw I (min n x) v us ct) (fun (_ : Unit) => True) := by
  refine gx_body (by decide) (Nat.le_of_ble_eq_true rfl) ?_
  intro p e s m below meth c ls hAt hB hl
  obtain ⟨hx, hb, hml, hown, hts, hr, hlk, hnm⟩ := hAt
  have hown : s.vm.findClass R_TT = some m.cls := hown
  obtain ⟨⟨hP, hG⟩, hD0⟩ := hB
  have hD := gx_D.self hD0
  have hS : va_S (gx_in (cW g ad so sw I n v us ct)) s.heap s.heap [] := va_S.rf
  have hl : lv_has ls 2 [(0, .ref (ad 1)), (1, .int (nI x))] := hl
  refine lv_aload_n hx hb d_TT_keep_0 rfl (lv_at hl 0 rfl) ?_
  refine lv_aload_n hx hb d_TT_keep_1 rfl (lv_at hl 0 rfl) ?_
  refine va_get (D := g.1) (own := R_TT) (ref := R_TT) (ci := 1) (v := .int (nI n)) (C := R_TT) (T := F_TT) (N := 6) hx hb hts in_TT hown hG.1 hP 1 rfl rfl 5 (by decide) (hts _ wd_39) (fun _ h9 => h9) rfl d_TT_keep_2 ?_
  refine lv_iload_n hx hb d_TT_keep_5 rfl (lv_at hl 1 rfl) ?_
  refine va_mmin hx hb (by rw [hml]; exact hl.1.symm) hown (hts _ wd_310) (hts _ wd_85) (hts _ wd_5) (hts _ wd_86) (Nat.le_of_ble_eq_true rfl) (Nat.le_of_ble_eq_true rfl) (Nat.le_refl _) (Nat.le_refl _) d_TT_keep_6 ?_
  refine mt_ri (y := nI (min n x)) (mt_minI (by omega) (by omega)) ?_
  refine va_put (D := g.1) (own := R_TT) (ref := R_TT) (ci := 1) (v := .int (nI (min n x))) (ty := .int) (C := R_TT) (T := F_TT) (N := 6) hx hb hts in_TT t_TT t_TT_ok n_TT hown hG.1 hP hD hS 1 rfl rfl 5 (by decide) (hts _ wd_39) (fun _ h9 => h9) rfl (by decide +kernel) rfl rfl (Nat.le_of_ble_eq_true rfl) d_TT_keep_9 (fun H locs hP hD hS => ?_)
  have hP : va_P g.1 gx_cl (cW g ad so sw I (min n x) v us ct) H := hP
  have hD : va_D (gx_in (cW g ad so sw I n v us ct)) (cW g ad so sw I (min n x) v us ct) := hD
  exact gc_retv (u := ()) (Wf := fun (_ : Unit) => cW g ad so sw I (min n x) v us ct) (post := fun (_ : Unit) => True) hx hb hr hlk (trivial) hP hD hS d_TT_keep_12
