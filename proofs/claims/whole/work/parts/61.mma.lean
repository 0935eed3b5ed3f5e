set_option maxHeartbeats 4000000 in
set_option maxRecDepth 100000 in
theorem c_MM_addValue {g : gG} {md : Nat → Nat} {J : Nat → Nat → Int32} {n v kn pr ar : Nat} {X : Nat → Int64} {k a b : Nat → Nat} {dp : Nat → Nat} {fc : Nat → Bool} {vk va vb vl : Nat → Nat} {kk x y lv : Nat} {l : Launch} (hM : mt_MR (J, n, v, kn, pr, ar, X) (n, k, a, b, dp, fc) (v, vk, va, vb, vl)) (hk2 : kk ≤ 2) (h0 : kk = 0 → x < 6) (h1 : kk = 1 → x < v ∧ y < v ∧ lv = vl x + vl y) (h2 : kk = 2 → x < n) (hl1 : 1 ≤ lv) (hl4 : lv ≤ 4) :
    gc_RW (S := gMS) l y_MM_addValue (gx_ws y_MM_addValue b_MM_addValue 5 (some .int)) 0 0 g [.ref (md 0), .int (nI kk), .int (nI x), .int (nI y), .int (nI lv)] (mW g md J n v kn pr ar X) (fun (u : gMS) => mW g md u.1 u.2.1 u.2.2.1 u.2.2.2.1 u.2.2.2.2.1 u.2.2.2.2.2.1 u.2.2.2.2.2.2) (fun r (u : gMS) => (v < 20 ∧ r = nI v ∧ mt_MR u (n, k, a, b, dp, fc) (sp_addV (v, vk, va, vb, vl) kk x y lv)) ∨ (¬ v < 20 ∧ r = -1 ∧ mt_MR u (n, k, a, b, dp, fc) (v, vk, va, vb, vl))) := by
  refine gx_body (by decide) (Nat.le_of_ble_eq_true rfl) ?_
  intro p e s m below meth c ls hAt hB hl
  obtain ⟨hx, hb, hml, hown, hts, hr, hlk, hnm⟩ := hAt
  have hown : s.vm.findClass R_MM = some m.cls := hown
  obtain ⟨⟨hP, hG⟩, hD0⟩ := hB
  have hD := gx_D.self hD0
  have hS : va_S (gx_in (mW g md J n v kn pr ar X)) s.heap s.heap [] := va_S.rf
  have hl : lv_has ls 5 [(0, .ref (md 0)), (1, .int (nI kk)), (2, .int (nI x)), (3, .int (nI y)), (4, .int (nI lv))] := hl
  have hM0 := hM
  obtain ⟨-, -, hn12, hT, hE, hw, hdp, hv20, hV, hvw, hkn, hK⟩ := hM0
  refine lv_aload_n hx hb d_MM_addValue_0 rfl (lv_at hl 0 rfl) ?_
  refine va_get (D := g.1) (own := R_MM) (ref := R_MM) (ci := 5) (v := .int (nI v)) (C := R_MM) (T := F_MM) (N := 16) hx hb hts in_MM hown hG.1 hP 0 rfl rfl 6 (by decide) (hts _ wd_389) (fun _ h9 => h9) rfl d_MM_addValue_1 ?_
  refine lv_bipush (v := nI 20) hx hb d_MM_addValue_4 (by decide) ?_
  refine lv_icmp_lt (tgt := 11) hx hb d_MM_addValue_6 (by decide) (mt_lt (by omega) (by omega) fun hc6 => ?_) (mt_nlt (by omega) (by omega) fun hc6 => ?_)
  · ---- 6T
    refine lv_aload_n hx hb d_MM_addValue_11 rfl (lv_at hl 0 rfl) ?_
    refine va_get (D := g.1) (own := R_MM) (ref := R_MM) (ci := 5) (v := .ref (md 6)) (C := R_MM) (T := F_MM) (N := 16) hx hb hts in_MM hown hG.1 hP 0 rfl rfl 7 (by decide) (hts _ wd_390) (fun _ h9 => h9) rfl d_MM_addValue_12 ?_
    refine lv_aload_n hx hb d_MM_addValue_15 rfl (lv_at hl 0 rfl) ?_
    refine va_get (D := g.1) (own := R_MM) (ref := R_MM) (ci := 5) (v := .int (nI v)) (C := R_MM) (T := F_MM) (N := 16) hx hb hts in_MM hown hG.1 hP 0 rfl rfl 6 (by decide) (hts _ wd_389) (fun _ h9 => h9) rfl d_MM_addValue_16 ?_
    refine lv_iload_n hx hb d_MM_addValue_19 rfl (lv_at hl 1 rfl) ?_
    refine va_iast hx hb hG.1 hP hD hS 6 0 rfl rfl (vp_in_nI (by omega) (by decide)) d_MM_addValue_20 (fun H locs hP hD hS => ?_)
    rw [nI_clamp (by omega)] at hP hD
    have hP : va_P g.1 gx_cl (mW g md (va_up J 5 (upd (J 5) v (nI kk))) n v kn pr ar X) H := hP
    have hD : va_D (gx_in (mW g md J n v kn pr ar X)) (mW g md (va_up J 5 (upd (J 5) v (nI kk))) n v kn pr ar X) := hD
    refine lv_aload_n hx hb d_MM_addValue_21 rfl (lv_at hl 0 rfl) ?_
    refine va_get (D := g.1) (own := R_MM) (ref := R_MM) (ci := 5) (v := .ref (md 7)) (C := R_MM) (T := F_MM) (N := 16) hx hb hts in_MM hown hG.1 hP 0 rfl rfl 8 (by decide) (hts _ wd_391) (fun _ h9 => h9) rfl d_MM_addValue_22 ?_
    refine lv_aload_n hx hb d_MM_addValue_25 rfl (lv_at hl 0 rfl) ?_
    refine va_get (D := g.1) (own := R_MM) (ref := R_MM) (ci := 5) (v := .int (nI v)) (C := R_MM) (T := F_MM) (N := 16) hx hb hts in_MM hown hG.1 hP 0 rfl rfl 6 (by decide) (hts _ wd_389) (fun _ h9 => h9) rfl d_MM_addValue_26 ?_
    refine lv_iload_n hx hb d_MM_addValue_29 rfl (lv_at hl 2 rfl) ?_
    refine va_iast hx hb hG.1 hP hD hS 7 0 rfl rfl (vp_in_nI (by omega) (by decide)) d_MM_addValue_30 (fun H locs hP hD hS => ?_)
    rw [nI_clamp (by omega)] at hP hD
    have hP : va_P g.1 gx_cl (mW g md (va_up (va_up J 5 (upd (J 5) v (nI kk))) 6 (upd ((va_up J 5 (upd (J 5) v (nI kk))) 6) v (nI x))) n v kn pr ar X) H := hP
    have hD : va_D (gx_in (mW g md J n v kn pr ar X)) (mW g md (va_up (va_up J 5 (upd (J 5) v (nI kk))) 6 (upd ((va_up J 5 (upd (J 5) v (nI kk))) 6) v (nI x))) n v kn pr ar X) := hD
    refine lv_aload_n hx hb d_MM_addValue_31 rfl (lv_at hl 0 rfl) ?_
    refine va_get (D := g.1) (own := R_MM) (ref := R_MM) (ci := 5) (v := .ref (md 8)) (C := R_MM) (T := F_MM) (N := 16) hx hb hts in_MM hown hG.1 hP 0 rfl rfl 9 (by decide) (hts _ wd_392) (fun _ h9 => h9) rfl d_MM_addValue_32 ?_
    refine lv_aload_n hx hb d_MM_addValue_35 rfl (lv_at hl 0 rfl) ?_
    refine va_get (D := g.1) (own := R_MM) (ref := R_MM) (ci := 5) (v := .int (nI v)) (C := R_MM) (T := F_MM) (N := 16) hx hb hts in_MM hown hG.1 hP 0 rfl rfl 6 (by decide) (hts _ wd_389) (fun _ h9 => h9) rfl d_MM_addValue_36 ?_
    refine lv_iload_n hx hb d_MM_addValue_39 rfl (lv_at hl 3 rfl) ?_
    refine va_iast hx hb hG.1 hP hD hS 8 0 rfl rfl (vp_in_nI (by omega) (by decide)) d_MM_addValue_40 (fun H locs hP hD hS => ?_)
    rw [nI_clamp (by omega)] at hP hD
    have hP : va_P g.1 gx_cl (mW g md (va_up (va_up (va_up J 5 (upd (J 5) v (nI kk))) 6 (upd ((va_up J 5 (upd (J 5) v (nI kk))) 6) v (nI x))) 7 (upd ((va_up (va_up J 5 (upd (J 5) v (nI kk))) 6 (upd ((va_up J 5 (upd (J 5) v (nI kk))) 6) v (nI x))) 7) v (nI y))) n v kn pr ar X) H := hP
    have hD : va_D (gx_in (mW g md J n v kn pr ar X)) (mW g md (va_up (va_up (va_up J 5 (upd (J 5) v (nI kk))) 6 (upd ((va_up J 5 (upd (J 5) v (nI kk))) 6) v (nI x))) 7 (upd ((va_up (va_up J 5 (upd (J 5) v (nI kk))) 6 (upd ((va_up J 5 (upd (J 5) v (nI kk))) 6) v (nI x))) 7) v (nI y))) n v kn pr ar X) := hD
    refine lv_aload_n hx hb d_MM_addValue_41 rfl (lv_at hl 0 rfl) ?_
    refine va_get (D := g.1) (own := R_MM) (ref := R_MM) (ci := 5) (v := .ref (md 9)) (C := R_MM) (T := F_MM) (N := 16) hx hb hts in_MM hown hG.1 hP 0 rfl rfl 10 (by decide) (hts _ wd_393) (fun _ h9 => h9) rfl d_MM_addValue_42 ?_
    refine lv_aload_n hx hb d_MM_addValue_45 rfl (lv_at hl 0 rfl) ?_
    refine va_get (D := g.1) (own := R_MM) (ref := R_MM) (ci := 5) (v := .int (nI v)) (C := R_MM) (T := F_MM) (N := 16) hx hb hts in_MM hown hG.1 hP 0 rfl rfl 6 (by decide) (hts _ wd_389) (fun _ h9 => h9) rfl d_MM_addValue_46 ?_
    refine lv_iload hx hb d_MM_addValue_49 (lv_at hl 4 rfl) ?_
    refine va_iast hx hb hG.1 hP hD hS 9 0 rfl rfl (vp_in_nI (by omega) (by decide)) d_MM_addValue_51 (fun H locs hP hD hS => ?_)
    rw [nI_clamp (by omega)] at hP hD
    have hP : va_P g.1 gx_cl (mW g md (va_up (va_up (va_up (va_up J 5 (upd (J 5) v (nI kk))) 6 (upd ((va_up J 5 (upd (J 5) v (nI kk))) 6) v (nI x))) 7 (upd ((va_up (va_up J 5 (upd (J 5) v (nI kk))) 6 (upd ((va_up J 5 (upd (J 5) v (nI kk))) 6) v (nI x))) 7) v (nI y))) 8 (upd ((va_up (va_up (va_up J 5 (upd (J 5) v (nI kk))) 6 (upd ((va_up J 5 (upd (J 5) v (nI kk))) 6) v (nI x))) 7 (upd ((va_up (va_up J 5 (upd (J 5) v (nI kk))) 6 (upd ((va_up J 5 (upd (J 5) v (nI kk))) 6) v (nI x))) 7) v (nI y))) 8) v (nI lv))) n v kn pr ar X) H := hP
    have hD : va_D (gx_in (mW g md J n v kn pr ar X)) (mW g md (va_up (va_up (va_up (va_up J 5 (upd (J 5) v (nI kk))) 6 (upd ((va_up J 5 (upd (J 5) v (nI kk))) 6) v (nI x))) 7 (upd ((va_up (va_up J 5 (upd (J 5) v (nI kk))) 6 (upd ((va_up J 5 (upd (J 5) v (nI kk))) 6) v (nI x))) 7) v (nI y))) 8 (upd ((va_up (va_up (va_up J 5 (upd (J 5) v (nI kk))) 6 (upd ((va_up J 5 (upd (J 5) v (nI kk))) 6) v (nI x))) 7 (upd ((va_up (va_up J 5 (upd (J 5) v (nI kk))) 6 (upd ((va_up J 5 (upd (J 5) v (nI kk))) 6) v (nI x))) 7) v (nI y))) 8) v (nI lv))) n v kn pr ar X) := hD
    refine lv_aload_n hx hb d_MM_addValue_52 rfl (lv_at hl 0 rfl) ?_
    refine lv_aload_n hx hb d_MM_addValue_53 rfl (lv_at hl 0 rfl) ?_
    refine va_get (D := g.1) (own := R_MM) (ref := R_MM) (ci := 5) (v := .int (nI v)) (C := R_MM) (T := F_MM) (N := 16) hx hb hts in_MM hown hG.1 hP 0 rfl rfl 6 (by decide) (hts _ wd_389) (fun _ h9 => h9) rfl d_MM_addValue_54 ?_
    refine lv_iconst (v := nI 1) hx hb d_MM_addValue_57 (by decide) ?_
    refine lv_iadd hx hb d_MM_addValue_58 ?_
    refine mt_ri (y := nI (v + 1)) (nI_add _ _) ?_
    refine va_put (D := g.1) (own := R_MM) (ref := R_MM) (ci := 5) (v := .int (nI (v + 1))) (ty := .int) (C := R_MM) (T := F_MM) (N := 16) hx hb hts in_MM t_MM t_MM_ok n_MM hown hG.1 hP hD hS 0 rfl rfl 6 (by decide) (hts _ wd_389) (fun _ h9 => h9) rfl (by decide +kernel) rfl rfl (Nat.le_of_ble_eq_true rfl) d_MM_addValue_59 (fun H locs hP hD hS => ?_)
    have hP : va_P g.1 gx_cl (mW g md (va_up (va_up (va_up (va_up J 5 (upd (J 5) v (nI kk))) 6 (upd ((va_up J 5 (upd (J 5) v (nI kk))) 6) v (nI x))) 7 (upd ((va_up (va_up J 5 (upd (J 5) v (nI kk))) 6 (upd ((va_up J 5 (upd (J 5) v (nI kk))) 6) v (nI x))) 7) v (nI y))) 8 (upd ((va_up (va_up (va_up J 5 (upd (J 5) v (nI kk))) 6 (upd ((va_up J 5 (upd (J 5) v (nI kk))) 6) v (nI x))) 7 (upd ((va_up (va_up J 5 (upd (J 5) v (nI kk))) 6 (upd ((va_up J 5 (upd (J 5) v (nI kk))) 6) v (nI x))) 7) v (nI y))) 8) v (nI lv))) n (v + 1) kn pr ar X) H := hP
    have hD : va_D (gx_in (mW g md J n v kn pr ar X)) (mW g md (va_up (va_up (va_up (va_up J 5 (upd (J 5) v (nI kk))) 6 (upd ((va_up J 5 (upd (J 5) v (nI kk))) 6) v (nI x))) 7 (upd ((va_up (va_up J 5 (upd (J 5) v (nI kk))) 6 (upd ((va_up J 5 (upd (J 5) v (nI kk))) 6) v (nI x))) 7) v (nI y))) 8 (upd ((va_up (va_up (va_up J 5 (upd (J 5) v (nI kk))) 6 (upd ((va_up J 5 (upd (J 5) v (nI kk))) 6) v (nI x))) 7 (upd ((va_up (va_up J 5 (upd (J 5) v (nI kk))) 6 (upd ((va_up J 5 (upd (J 5) v (nI kk))) 6) v (nI x))) 7) v (nI y))) 8) v (nI lv))) n (v + 1) kn pr ar X) := hD
    refine lv_aload_n hx hb d_MM_addValue_62 rfl (lv_at hl 0 rfl) ?_
    refine va_get (D := g.1) (own := R_MM) (ref := R_MM) (ci := 5) (v := .int (nI (v + 1))) (C := R_MM) (T := F_MM) (N := 16) hx hb hts in_MM hown hG.1 hP 0 rfl rfl 6 (by decide) (hts _ wd_389) (fun _ h9 => h9) rfl d_MM_addValue_63 ?_
    refine lv_iconst (v := nI 1) hx hb d_MM_addValue_66 (by decide) ?_
    refine lv_isub hx hb d_MM_addValue_67 ?_
    refine mt_ri (y := nI (v + 1 - 1)) (pk_sub (by omega)) ?_
    refine mt_ri (y := nI v) (by rw [Nat.add_sub_cancel]) ?_
    exact gc_retwi (u := (va_up (va_up (va_up (va_up J 5 (upd (J 5) v (nI kk))) 6 (upd ((va_up J 5 (upd (J 5) v (nI kk))) 6) v (nI x))) 7 (upd ((va_up (va_up J 5 (upd (J 5) v (nI kk))) 6 (upd ((va_up J 5 (upd (J 5) v (nI kk))) 6) v (nI x))) 7) v (nI y))) 8 (upd ((va_up (va_up (va_up J 5 (upd (J 5) v (nI kk))) 6 (upd ((va_up J 5 (upd (J 5) v (nI kk))) 6) v (nI x))) 7 (upd ((va_up (va_up J 5 (upd (J 5) v (nI kk))) 6 (upd ((va_up J 5 (upd (J 5) v (nI kk))) 6) v (nI x))) 7) v (nI y))) 8) v (nI lv)), n, v + 1, kn, pr, ar, X)) (Wf := fun (u : gMS) => mW g md u.1 u.2.1 u.2.2.1 u.2.2.2.1 u.2.2.2.2.1 u.2.2.2.2.2.1 u.2.2.2.2.2.2) (post := fun r (u : gMS) => (v < 20 ∧ r = nI v ∧ mt_MR u (n, k, a, b, dp, fc) (sp_addV (v, vk, va, vb, vl) kk x y lv)) ∨ (¬ v < 20 ∧ r = -1 ∧ mt_MR u (n, k, a, b, dp, fc) (v, vk, va, vb, vl))) hx hb hr hlk (Or.inl ⟨hc6, rfl, mt_MR_addV hM hc6 mt_VN_of hk2 h0 h1 h2 ⟨hl1, hl4⟩⟩) hP hD hS d_MM_addValue_68
  · ---- 6F
    refine lv_iconst (v := -1) hx hb d_MM_addValue_9 (by decide) ?_
    exact gc_retwi (u := (J, n, v, kn, pr, ar, X)) (Wf := fun (u : gMS) => mW g md u.1 u.2.1 u.2.2.1 u.2.2.2.1 u.2.2.2.2.1 u.2.2.2.2.2.1 u.2.2.2.2.2.2) (post := fun r (u : gMS) => (v < 20 ∧ r = nI v ∧ mt_MR u (n, k, a, b, dp, fc) (sp_addV (v, vk, va, vb, vl) kk x y lv)) ∨ (¬ v < 20 ∧ r = -1 ∧ mt_MR u (n, k, a, b, dp, fc) (v, vk, va, vb, vl))) hx hb hr hlk (Or.inr ⟨Nat.not_lt.mpr hc6, rfl, hM⟩) hP hD hS d_MM_addValue_10

set_option maxHeartbeats 4000000 in
set_option maxRecDepth 100000 in
theorem c_MM_constant {g : gG} {md : Nat → Nat} {J : Nat → Nat → Int32} {n v kn pr ar : Nat} {X : Nat → Int64} {k a b : Nat → Nat} {dp : Nat → Nat} {fc : Nat → Bool} {vk va vb vl : Nat → Nat} {x : Int32} {l : Launch} (hM : mt_MR (J, n, v, kn, pr, ar, X) (n, k, a, b, dp, fc) (v, vk, va, vb, vl))  :
    gc_RW (S := gMS) l y_MM_constant (gx_ws y_MM_constant b_MM_constant 2 (some .int)) 1 24 g [.ref (md 0), .int x] (mW g md J n v kn pr ar X) (fun (u : gMS) => mW g md u.1 u.2.1 u.2.2.1 u.2.2.2.1 u.2.2.2.2.1 u.2.2.2.2.2.1 u.2.2.2.2.2.2) (fun r (u : gMS) => ∃ V, sp_con (v, vk, va, vb, vl) x r V ∧ mt_MR u (n, k, a, b, dp, fc) V) := by
  refine gx_body (by decide) (Nat.le_of_ble_eq_true rfl) ?_
  intro p e s m below meth c ls hAt hB hl
  obtain ⟨hx, hb, hml, hown, hts, hr, hlk, hnm⟩ := hAt
  have hown : s.vm.findClass R_MM = some m.cls := hown
  obtain ⟨⟨hP, hG⟩, hD0⟩ := hB
  have hD := gx_D.self hD0
  have hS : va_S (gx_in (mW g md J n v kn pr ar X)) s.heap s.heap [] := va_S.rf
  have hl : lv_has ls 2 [(0, .ref (md 0)), (1, .int x)] := hl
  have hM0 := hM
  obtain ⟨-, -, hn12, hT, hE, hw, hdp, hv20, hV, hvw, hkn, hK⟩ := hM0
  refine lv_iload_n hx hb d_MM_constant_0 rfl (lv_at hl 1 rfl) ?_
  refine lv_if_lt (tgt := 9) hx hb d_MM_constant_1 (by decide) (fun hc1 => ?_) (fun hc1 => ?_)
  · ---- 1T
    refine lv_iconst (v := -1) hx hb d_MM_constant_9 (by decide) ?_
    refine lv_goto (tgt := 21) hx hb d_MM_constant_10 (by decide) ?_
    exact gc_retwi (u := (J, n, v, kn, pr, ar, X)) (Wf := fun (u : gMS) => mW g md u.1 u.2.1 u.2.2.1 u.2.2.2.1 u.2.2.2.2.1 u.2.2.2.2.2.1 u.2.2.2.2.2.2) (post := fun r (u : gMS) => ∃ V, sp_con (v, vk, va, vb, vl) x r V ∧ mt_MR u (n, k, a, b, dp, fc) V) hx hb hr hlk (⟨(v, vk, va, vb, vl), Or.inr ⟨(fun ⟨i9, h1, _⟩ => absurd hc1 (by rw [h1.2]; exact nI_pos (by have := h1.1; omega))), rfl, rfl⟩, hM⟩) hP hD hS d_MM_constant_21
  · ---- 1F
    refine lv_iload_n hx hb d_MM_constant_4 rfl (lv_at hl 1 rfl) ?_
    refine lv_iconst (v := nI 5) hx hb d_MM_constant_5 (by decide) ?_
    refine lv_icmp_le (tgt := 13) hx hb d_MM_constant_6 (by decide) (fun hc6 => ?_) (fun hc6 => ?_)
    · ---- 1F 6T
      obtain ⟨i, hxi_i⟩ := mt_65 hc1 hc6
      have hlt_i := hxi_i.1
      refine lv_aload_n hx hb d_MM_constant_13 rfl (lv_at hl 0 rfl) ?_
      refine lv_iconst (v := nI 0) hx hb d_MM_constant_14 (by decide) ?_
      refine lv_iload_n hx hb d_MM_constant_15 rfl (lv_at hl 1 rfl) ?_
      refine mt_ri (y := nI i) hxi_i.2 ?_
      refine lv_iconst (v := nI 0) hx hb d_MM_constant_16 (by decide) ?_
      refine lv_iconst (v := nI 1) hx hb d_MM_constant_17 (by decide) ?_
      refine gc_cwi (va_runV (own := R_MM) (As := [.int (nI 0), .int (nI i), .int (nI 0), .int (nI 1)]) (rest := []) ⟨hx, hb, hml, hown, hts⟩ (c_MM_addValue (l := l) (g := g) (md := md) (J := J) (n := n) (v := v) (kn := kn) (pr := pr) (ar := ar) (X := X) (k := k) (a := a) (b := b) (dp := dp) (fc := fc) (vk := vk) (va := va) (vb := vb) (vl := vl) (kk := 0) (x := i) (y := 0) (lv := 1) hM (by decide) (fun _ => hlt_i) (fun h9 => absurd h9 (by decide)) (fun h9 => absurd h9 (by decide)) (by omega) (by omega)) (cwV 4 hts (gx_goodV wd_556 wd_558 ws_30 wd_7 wd_559) rfl rfl rfl (by decide +kernel) ⟨Nat.le_of_ble_eq_true rfl, Nat.le_of_ble_eq_true rfl⟩) (gc_preVW (gc_recv hP hG (ci := 5) rfl (q0 := 0) rfl) hP hG hD) rfl rfl hl.1 rfl (lv_room (Nat.le_of_ble_eq_true rfl)) d_MM_constant_18 ⟨Nat.le_refl _, Nat.le_refl _⟩) hD hS (fun r9 u9 H locs hr9 hP hD hS => ?_)
      exact gc_retwi (u := u9) (Wf := fun (u : gMS) => mW g md u.1 u.2.1 u.2.2.1 u.2.2.2.1 u.2.2.2.2.1 u.2.2.2.2.2.1 u.2.2.2.2.2.2) (post := fun r (u : gMS) => ∃ V, sp_con (v, vk, va, vb, vl) x r V ∧ mt_MR u (n, k, a, b, dp, fc) V) hx hb hr hlk (hr9.elim (fun h9 => ⟨_, Or.inl ⟨i, hxi_i, h9.1, h9.2.1, rfl⟩, h9.2.2⟩) (fun h9 => ⟨(v, vk, va, vb, vl), Or.inr ⟨(fun ⟨_, _, h8⟩ => h9.1 h8), h9.2.1, rfl⟩, h9.2.2⟩)) hP hD hS d_MM_constant_21
    · ---- 1F 6F
      refine lv_iconst (v := -1) hx hb d_MM_constant_9 (by decide) ?_
      refine lv_goto (tgt := 21) hx hb d_MM_constant_10 (by decide) ?_
      exact gc_retwi (u := (J, n, v, kn, pr, ar, X)) (Wf := fun (u : gMS) => mW g md u.1 u.2.1 u.2.2.1 u.2.2.2.1 u.2.2.2.2.1 u.2.2.2.2.2.1 u.2.2.2.2.2.2) (post := fun r (u : gMS) => ∃ V, sp_con (v, vk, va, vb, vl) x r V ∧ mt_MR u (n, k, a, b, dp, fc) V) hx hb hr hlk (⟨(v, vk, va, vb, vl), Or.inr ⟨(fun ⟨i9, h1, _⟩ => absurd (show x ≤ nI 5 by rw [h1.2]; exact nI_le (by have := h1.1; omega) (by decide)) hc6), rfl, rfl⟩, hM⟩) hP hD hS d_MM_constant_21

set_option maxHeartbeats 4000000 in
set_option maxRecDepth 100000 in
theorem c_MM_pair {g : gG} {md : Nat → Nat} {J : Nat → Nat → Int32} {n v kn pr ar : Nat} {X : Nat → Int64} {k a b : Nat → Nat} {dp : Nat → Nat} {fc : Nat → Bool} {vk va vb vl : Nat → Nat} {x y : Int32} {l : Launch} (hM : mt_MR (J, n, v, kn, pr, ar, X) (n, k, a, b, dp, fc) (v, vk, va, vb, vl))  :
    gc_RW (S := gMS) l y_MM_pair (gx_ws y_MM_pair b_MM_pair 3 (some .int)) 1 24 g [.ref (md 0), .int x, .int y] (mW g md J n v kn pr ar X) (fun (u : gMS) => mW g md u.1 u.2.1 u.2.2.1 u.2.2.2.1 u.2.2.2.2.1 u.2.2.2.2.2.1 u.2.2.2.2.2.2) (fun r (u : gMS) => ∃ V, sp_pai (v, vk, va, vb, vl) x y r V ∧ mt_MR u (n, k, a, b, dp, fc) V) := by
  refine gx_body (by decide) (Nat.le_of_ble_eq_true rfl) ?_
  intro p e s m below meth c ls hAt hB hl
  obtain ⟨hx, hb, hml, hown, hts, hr, hlk, hnm⟩ := hAt
  have hown : s.vm.findClass R_MM = some m.cls := hown
  obtain ⟨⟨hP, hG⟩, hD0⟩ := hB
  have hD := gx_D.self hD0
  have hS : va_S (gx_in (mW g md J n v kn pr ar X)) s.heap s.heap [] := va_S.rf
  have hl : lv_has ls 3 [(0, .ref (md 0)), (1, .int x), (2, .int y)] := hl
  have hM0 := hM
  obtain ⟨-, -, hn12, hT, hE, hw, hdp, hv20, hV, hvw, hkn, hK⟩ := hM0
  refine lv_aload_n hx hb d_MM_pair_0 rfl (lv_at hl 0 rfl) ?_
  refine lv_iload_n hx hb d_MM_pair_1 rfl (lv_at hl 1 rfl) ?_
  refine vp_callSi (va_runV (own := R_MM) (As := [.int x]) (rest := []) ⟨hx, hb, hml, hown, hts⟩ (c_MM_isValue (l := l) (g := g) (md := md) (J := J) (n := n) (v := v) (kn := kn) (pr := pr) (ar := ar) (X := X) (x := x) (by omega)) (cwV 1 hts (gx_goodV wd_564 wd_566 ws_31 wd_7 wd_567) rfl rfl rfl (by decide +kernel) ⟨Nat.le_of_ble_eq_true rfl, Nat.le_of_ble_eq_true rfl⟩) (gc_preV (gc_recv hP hG (ci := 5) rfl (q0 := 0) rfl) hP hG) rfl rfl hl.1 rfl (lv_room (Nat.le_of_ble_eq_true rfl)) d_MM_pair_2 ⟨Nat.le_refl _, Nat.le_refl _⟩).run (fun r hr2 => ?_)
  obtain ⟨z2, hq2, hz2⟩ := hr2
  subst hq2
  refine lv_if_eq (tgt := 33) hx hb d_MM_pair_5 (by decide) (mt_z fun hc5 => ?_) (mt_nz fun hc5 => ?_)
  · ---- 5T
    refine lv_iconst (v := -1) hx hb d_MM_pair_33 (by decide) ?_
    exact gc_retwi (u := (J, n, v, kn, pr, ar, X)) (Wf := fun (u : gMS) => mW g md u.1 u.2.1 u.2.2.1 u.2.2.2.1 u.2.2.2.2.1 u.2.2.2.2.2.1 u.2.2.2.2.2.2) (post := fun r (u : gMS) => ∃ V, sp_pai (v, vk, va, vb, vl) x y r V ∧ mt_MR u (n, k, a, b, dp, fc) V) hx hb hr hlk (⟨(v, vk, va, vb, vl), Or.inr ⟨(fun ⟨i9, _, h1⟩ => absurd (hz2.mpr ⟨i9, h1.1⟩) (by rw [hc5]; decide)), rfl, rfl⟩, hM⟩) hP hD hS d_MM_pair_34
  · ---- 5F
    obtain ⟨i, hxi_i⟩ := hz2.mp hc5
    have hlt_i := hxi_i.1
    have hp2_i : 2 ^ i ≤ 2 ^ 20 := Nat.pow_le_pow_right (n := 2) (i := i) (j := 20) (by decide) (by omega)
    have hli := (hvw i hlt_i).2.2.2.2
    refine lv_aload_n hx hb d_MM_pair_8 rfl (lv_at hl 0 rfl) ?_
    refine lv_iload_n hx hb d_MM_pair_9 rfl (lv_at hl 2 rfl) ?_
    refine vp_callSi (va_runV (own := R_MM) (As := [.int y]) (rest := []) ⟨hx, hb, hml, hown, hts⟩ (c_MM_isValue (l := l) (g := g) (md := md) (J := J) (n := n) (v := v) (kn := kn) (pr := pr) (ar := ar) (X := X) (x := y) (by omega)) (cwV 1 hts (gx_goodV wd_564 wd_566 ws_31 wd_7 wd_567) rfl rfl rfl (by decide +kernel) ⟨Nat.le_of_ble_eq_true rfl, Nat.le_of_ble_eq_true rfl⟩) (gc_preV (gc_recv hP hG (ci := 5) rfl (q0 := 0) rfl) hP hG) rfl rfl hl.1 rfl (lv_room (Nat.le_of_ble_eq_true rfl)) d_MM_pair_10 ⟨Nat.le_refl _, Nat.le_refl _⟩).run (fun r hr10 => ?_)
    obtain ⟨z10, hq10, hz10⟩ := hr10
    subst hq10
    refine lv_if_eq (tgt := 33) hx hb d_MM_pair_13 (by decide) (mt_z fun hc13 => ?_) (mt_nz fun hc13 => ?_)
    · ---- 5F 13T
      refine lv_iconst (v := -1) hx hb d_MM_pair_33 (by decide) ?_
      exact gc_retwi (u := (J, n, v, kn, pr, ar, X)) (Wf := fun (u : gMS) => mW g md u.1 u.2.1 u.2.2.1 u.2.2.2.1 u.2.2.2.2.1 u.2.2.2.2.2.1 u.2.2.2.2.2.2) (post := fun r (u : gMS) => ∃ V, sp_pai (v, vk, va, vb, vl) x y r V ∧ mt_MR u (n, k, a, b, dp, fc) V) hx hb hr hlk (⟨(v, vk, va, vb, vl), Or.inr ⟨(fun ⟨_, j9, h1⟩ => absurd (hz10.mpr ⟨j9, h1.2.1⟩) (by rw [hc13]; decide)), rfl, rfl⟩, hM⟩) hP hD hS d_MM_pair_34
    · ---- 5F 13F
      obtain ⟨j, hxi_j⟩ := hz10.mp hc13
      have hlt_j := hxi_j.1
      have hp2_j : 2 ^ j ≤ 2 ^ 20 := Nat.pow_le_pow_right (n := 2) (i := j) (j := 20) (by decide) (by omega)
      have hlj := (hvw j hlt_j).2.2.2.2
      refine lv_aload_n hx hb d_MM_pair_16 rfl (lv_at hl 0 rfl) ?_
      refine va_get (D := g.1) (own := R_MM) (ref := R_MM) (ci := 5) (v := .ref (md 9)) (C := R_MM) (T := F_MM) (N := 16) hx hb hts in_MM hown hG.1 hP 0 rfl rfl 10 (by decide) (hts _ wd_393) (fun _ h9 => h9) rfl d_MM_pair_17 ?_
      refine lv_iload_n hx hb d_MM_pair_20 rfl (lv_at hl 1 rfl) ?_
      refine mt_ri (y := nI i) hxi_i.2 ?_
      refine va_iald hx hb hG.1 hP 9 0 rfl rfl (vp_in_nI (by omega) (by decide)) d_MM_pair_21 ?_
      refine mt_ri (y := nI (vl i)) (by rw [nI_clamp (by omega)]; exact (hV _ (by omega)).2.2.2) ?_
      refine lv_aload_n hx hb d_MM_pair_22 rfl (lv_at hl 0 rfl) ?_
      refine va_get (D := g.1) (own := R_MM) (ref := R_MM) (ci := 5) (v := .ref (md 9)) (C := R_MM) (T := F_MM) (N := 16) hx hb hts in_MM hown hG.1 hP 0 rfl rfl 10 (by decide) (hts _ wd_393) (fun _ h9 => h9) rfl d_MM_pair_23 ?_
      refine lv_iload_n hx hb d_MM_pair_26 rfl (lv_at hl 2 rfl) ?_
      refine mt_ri (y := nI j) hxi_j.2 ?_
      refine va_iald hx hb hG.1 hP 9 0 rfl rfl (vp_in_nI (by omega) (by decide)) d_MM_pair_27 ?_
      refine mt_ri (y := nI (vl j)) (by rw [nI_clamp (by omega)]; exact (hV _ (by omega)).2.2.2) ?_
      refine lv_iadd hx hb d_MM_pair_28 ?_
      refine mt_ri (y := nI (vl i + (vl j))) (nI_add _ _) ?_
      refine lv_iconst (v := nI 4) hx hb d_MM_pair_29 (by decide) ?_
      refine lv_icmp_le (tgt := 35) hx hb d_MM_pair_30 (by decide) (mt_le (by omega) (by omega) fun hc30 => ?_) (mt_nle (by omega) (by omega) fun hc30 => ?_)
      · ---- 5F 13F 30T
        refine lv_aload_n hx hb d_MM_pair_35 rfl (lv_at hl 0 rfl) ?_
        refine lv_iconst (v := nI 1) hx hb d_MM_pair_36 (by decide) ?_
        refine lv_iload_n hx hb d_MM_pair_37 rfl (lv_at hl 1 rfl) ?_
        refine mt_ri (y := nI i) hxi_i.2 ?_
        refine lv_iload_n hx hb d_MM_pair_38 rfl (lv_at hl 2 rfl) ?_
        refine mt_ri (y := nI j) hxi_j.2 ?_
        refine lv_aload_n hx hb d_MM_pair_39 rfl (lv_at hl 0 rfl) ?_
        refine va_get (D := g.1) (own := R_MM) (ref := R_MM) (ci := 5) (v := .ref (md 9)) (C := R_MM) (T := F_MM) (N := 16) hx hb hts in_MM hown hG.1 hP 0 rfl rfl 10 (by decide) (hts _ wd_393) (fun _ h9 => h9) rfl d_MM_pair_40 ?_
        refine lv_iload_n hx hb d_MM_pair_43 rfl (lv_at hl 1 rfl) ?_
        refine mt_ri (y := nI i) hxi_i.2 ?_
        refine va_iald hx hb hG.1 hP 9 0 rfl rfl (vp_in_nI (by omega) (by decide)) d_MM_pair_44 ?_
        refine mt_ri (y := nI (vl i)) (by rw [nI_clamp (by omega)]; exact (hV _ (by omega)).2.2.2) ?_
        refine lv_aload_n hx hb d_MM_pair_45 rfl (lv_at hl 0 rfl) ?_
        refine va_get (D := g.1) (own := R_MM) (ref := R_MM) (ci := 5) (v := .ref (md 9)) (C := R_MM) (T := F_MM) (N := 16) hx hb hts in_MM hown hG.1 hP 0 rfl rfl 10 (by decide) (hts _ wd_393) (fun _ h9 => h9) rfl d_MM_pair_46 ?_
        refine lv_iload_n hx hb d_MM_pair_49 rfl (lv_at hl 2 rfl) ?_
        refine mt_ri (y := nI j) hxi_j.2 ?_
        refine va_iald hx hb hG.1 hP 9 0 rfl rfl (vp_in_nI (by omega) (by decide)) d_MM_pair_50 ?_
        refine mt_ri (y := nI (vl j)) (by rw [nI_clamp (by omega)]; exact (hV _ (by omega)).2.2.2) ?_
        refine lv_iadd hx hb d_MM_pair_51 ?_
        refine mt_ri (y := nI (vl i + (vl j))) (nI_add _ _) ?_
        refine gc_cwi (va_runV (own := R_MM) (As := [.int (nI 1), .int (nI i), .int (nI j), .int (nI (vl i + (vl j)))]) (rest := []) ⟨hx, hb, hml, hown, hts⟩ (c_MM_addValue (l := l) (g := g) (md := md) (J := J) (n := n) (v := v) (kn := kn) (pr := pr) (ar := ar) (X := X) (k := k) (a := a) (b := b) (dp := dp) (fc := fc) (vk := vk) (va := va) (vb := vb) (vl := vl) (kk := 1) (x := i) (y := j) (lv := vl i + (vl j)) hM (by decide) (fun h9 => absurd h9 (by decide)) (fun _ => ⟨hlt_i, hlt_j, rfl⟩) (fun h9 => absurd h9 (by decide)) (by omega) (by omega)) (cwV 4 hts (gx_goodV wd_556 wd_558 ws_30 wd_7 wd_559) rfl rfl rfl (by decide +kernel) ⟨Nat.le_of_ble_eq_true rfl, Nat.le_of_ble_eq_true rfl⟩) (gc_preVW (gc_recv hP hG (ci := 5) rfl (q0 := 0) rfl) hP hG hD) rfl rfl hl.1 rfl (lv_room (Nat.le_of_ble_eq_true rfl)) d_MM_pair_52 ⟨Nat.le_refl _, Nat.le_refl _⟩) hD hS (fun r9 u9 H locs hr9 hP hD hS => ?_)
        exact gc_retwi (u := u9) (Wf := fun (u : gMS) => mW g md u.1 u.2.1 u.2.2.1 u.2.2.2.1 u.2.2.2.2.1 u.2.2.2.2.2.1 u.2.2.2.2.2.2) (post := fun r (u : gMS) => ∃ V, sp_pai (v, vk, va, vb, vl) x y r V ∧ mt_MR u (n, k, a, b, dp, fc) V) hx hb hr hlk (hr9.elim (fun h9 => ⟨_, Or.inl ⟨i, j, ⟨hxi_i, hxi_j, h9.1, hc30⟩, h9.2.1, rfl⟩, h9.2.2⟩) (fun h9 => ⟨(v, vk, va, vb, vl), Or.inr ⟨(fun ⟨i9, j9, h1⟩ => h9.1 h1.2.2.1), h9.2.1, rfl⟩, h9.2.2⟩)) hP hD hS d_MM_pair_55
      · ---- 5F 13F 30F
        refine lv_iconst (v := -1) hx hb d_MM_pair_33 (by decide) ?_
        exact gc_retwi (u := (J, n, v, kn, pr, ar, X)) (Wf := fun (u : gMS) => mW g md u.1 u.2.1 u.2.2.1 u.2.2.2.1 u.2.2.2.2.1 u.2.2.2.2.2.1 u.2.2.2.2.2.2) (post := fun r (u : gMS) => ∃ V, sp_pai (v, vk, va, vb, vl) x y r V ∧ mt_MR u (n, k, a, b, dp, fc) V) hx hb hr hlk (⟨(v, vk, va, vb, vl), Or.inr ⟨(fun ⟨i9, j9, h1⟩ => by have e1 := sp_is_inj (show v ≤ 100 by omega) h1.1 hxi_i; have e2 := sp_is_inj (show v ≤ 100 by omega) h1.2.1 hxi_j; subst e1; subst e2; exact absurd h1.2.2.2 (Nat.not_le.mpr hc30)), rfl, rfl⟩, hM⟩) hP hD hS d_MM_pair_34

set_option maxHeartbeats 4000000 in
set_option maxRecDepth 100000 in
theorem c_MM_function {g : gG} {md : Nat → Nat} {J : Nat → Nat → Int32} {n v kn pr ar : Nat} {X : Nat → Int64} {k a b : Nat → Nat} {dp : Nat → Nat} {fc : Nat → Bool} {vk va vb vl : Nat → Nat} {x : Int32} {l : Launch} (hM : mt_MR (J, n, v, kn, pr, ar, X) (n, k, a, b, dp, fc) (v, vk, va, vb, vl))  :
    gc_RW (S := gMS) l y_MM_function (gx_ws y_MM_function b_MM_function 2 (some .int)) 1 24 g [.ref (md 0), .int x] (mW g md J n v kn pr ar X) (fun (u : gMS) => mW g md u.1 u.2.1 u.2.2.1 u.2.2.2.1 u.2.2.2.2.1 u.2.2.2.2.2.1 u.2.2.2.2.2.2) (fun r (u : gMS) => ∃ V, sp_fun (n, k, a, b, dp, fc) (v, vk, va, vb, vl) x r V ∧ mt_MR u (n, k, a, b, dp, fc) V) := by
  refine gx_body (by decide) (Nat.le_of_ble_eq_true rfl) ?_
  intro p e s m below meth c ls hAt hB hl
  obtain ⟨hx, hb, hml, hown, hts, hr, hlk, hnm⟩ := hAt
  have hown : s.vm.findClass R_MM = some m.cls := hown
  obtain ⟨⟨hP, hG⟩, hD0⟩ := hB
  have hD := gx_D.self hD0
  have hS : va_S (gx_in (mW g md J n v kn pr ar X)) s.heap s.heap [] := va_S.rf
  have hl : lv_has ls 2 [(0, .ref (md 0)), (1, .int x)] := hl
  have hM0 := hM
  obtain ⟨-, -, hn12, hT, hE, hw, hdp, hv20, hV, hvw, hkn, hK⟩ := hM0
  refine lv_aload_n hx hb d_MM_function_0 rfl (lv_at hl 0 rfl) ?_
  refine lv_iload_n hx hb d_MM_function_1 rfl (lv_at hl 1 rfl) ?_
  refine vp_callSi (va_runV (own := R_MM) (As := [.int x]) (rest := []) ⟨hx, hb, hml, hown, hts⟩ (c_MM_isType (l := l) (g := g) (md := md) (J := J) (n := n) (v := v) (kn := kn) (pr := pr) (ar := ar) (X := X) (x := x) (by omega)) (cwV 1 hts (gx_goodV wd_448 wd_450 ws_14 wd_7 wd_451) rfl rfl rfl (by decide +kernel) ⟨Nat.le_of_ble_eq_true rfl, Nat.le_of_ble_eq_true rfl⟩) (gc_preV (gc_recv hP hG (ci := 5) rfl (q0 := 0) rfl) hP hG) rfl rfl hl.1 rfl (lv_room (Nat.le_of_ble_eq_true rfl)) d_MM_function_2 ⟨Nat.le_refl _, Nat.le_refl _⟩).run (fun r hr2 => ?_)
  obtain ⟨z2, hq2, hz2⟩ := hr2
  subst hq2
  refine lv_if_eq (tgt := 28) hx hb d_MM_function_5 (by decide) (mt_z fun hc5 => ?_) (mt_nz fun hc5 => ?_)
  · ---- 5T
    refine lv_iconst (v := -1) hx hb d_MM_function_28 (by decide) ?_
    exact gc_retwi (u := (J, n, v, kn, pr, ar, X)) (Wf := fun (u : gMS) => mW g md u.1 u.2.1 u.2.2.1 u.2.2.2.1 u.2.2.2.2.1 u.2.2.2.2.2.1 u.2.2.2.2.2.2) (post := fun r (u : gMS) => ∃ V, sp_fun (n, k, a, b, dp, fc) (v, vk, va, vb, vl) x r V ∧ mt_MR u (n, k, a, b, dp, fc) V) hx hb hr hlk (⟨(v, vk, va, vb, vl), Or.inr ⟨(fun ⟨i9, h1⟩ => absurd (hz2.mpr ⟨i9, h1.1⟩) (by rw [hc5]; decide)), rfl, rfl⟩, hM⟩) hP hD hS d_MM_function_29
  · ---- 5F
    obtain ⟨i, hxi_i⟩ := hz2.mp hc5
    have hlt_i := hxi_i.1
    have hp2_i : 2 ^ i ≤ 2 ^ 20 := Nat.pow_le_pow_right (n := 2) (i := i) (j := 20) (by decide) (by omega)
    have hq2_i : 2 ^ i ≤ 2 ^ 12 := Nat.pow_le_pow_right (n := 2) (i := i) (j := 12) (by decide) (by omega)
    refine lv_aload_n hx hb d_MM_function_8 rfl (lv_at hl 0 rfl) ?_
    refine va_get (D := g.1) (own := R_MM) (ref := R_MM) (ci := 5) (v := .ref (md 5)) (C := R_MM) (T := F_MM) (N := 16) hx hb hts in_MM hown hG.1 hP 0 rfl rfl 5 (by decide) (hts _ wd_388) (fun _ h9 => h9) rfl d_MM_function_9 ?_
    refine lv_iload_n hx hb d_MM_function_12 rfl (lv_at hl 1 rfl) ?_
    refine mt_ri (y := nI i) hxi_i.2 ?_
    refine va_zald hx hb hG.1 hP 5 1 rfl rfl (vp_in_nI (by omega) (by decide)) d_MM_function_13 ?_
    refine mt_ri (y := mt_b (fc i)) (by rw [nI_clamp (by omega)]; exact (hE _ (by omega)).2) ?_
    refine lv_if_eq (tgt := 28) hx hb d_MM_function_14 (by decide) (mt_z fun hc14 => ?_) (mt_nz fun hc14 => ?_)
    · ---- 5F 14T
      refine lv_iconst (v := -1) hx hb d_MM_function_28 (by decide) ?_
      exact gc_retwi (u := (J, n, v, kn, pr, ar, X)) (Wf := fun (u : gMS) => mW g md u.1 u.2.1 u.2.2.1 u.2.2.2.1 u.2.2.2.2.1 u.2.2.2.2.2.1 u.2.2.2.2.2.2) (post := fun r (u : gMS) => ∃ V, sp_fun (n, k, a, b, dp, fc) (v, vk, va, vb, vl) x r V ∧ mt_MR u (n, k, a, b, dp, fc) V) hx hb hr hlk (⟨(v, vk, va, vb, vl), Or.inr ⟨(fun ⟨i9, h1⟩ => by have e1 := sp_is_inj (show n ≤ 100 by omega) h1.1 hxi_i; subst e1; have h8 := h1.2.1; dsimp only at h8; rw [hc14] at h8; cases h8), rfl, rfl⟩, hM⟩) hP hD hS d_MM_function_29
    · ---- 5F 14F
      refine lv_aload_n hx hb d_MM_function_17 rfl (lv_at hl 0 rfl) ?_
      refine lv_iconst (v := nI 2) hx hb d_MM_function_18 (by decide) ?_
      refine lv_iload_n hx hb d_MM_function_19 rfl (lv_at hl 1 rfl) ?_
      refine mt_ri (y := nI i) hxi_i.2 ?_
      refine lv_iconst (v := nI 0) hx hb d_MM_function_20 (by decide) ?_
      refine lv_iconst (v := nI 1) hx hb d_MM_function_21 (by decide) ?_
      refine gc_cwi (va_runV (own := R_MM) (As := [.int (nI 2), .int (nI i), .int (nI 0), .int (nI 1)]) (rest := []) ⟨hx, hb, hml, hown, hts⟩ (c_MM_addValue (l := l) (g := g) (md := md) (J := J) (n := n) (v := v) (kn := kn) (pr := pr) (ar := ar) (X := X) (k := k) (a := a) (b := b) (dp := dp) (fc := fc) (vk := vk) (va := va) (vb := vb) (vl := vl) (kk := 2) (x := i) (y := 0) (lv := 1) hM (by decide) (fun h9 => absurd h9 (by decide)) (fun h9 => absurd h9 (by decide)) (fun _ => hlt_i) (by omega) (by omega)) (cwV 4 hts (gx_goodV wd_556 wd_558 ws_30 wd_7 wd_559) rfl rfl rfl (by decide +kernel) ⟨Nat.le_of_ble_eq_true rfl, Nat.le_of_ble_eq_true rfl⟩) (gc_preVW (gc_recv hP hG (ci := 5) rfl (q0 := 0) rfl) hP hG hD) rfl rfl hl.1 rfl (lv_room (Nat.le_of_ble_eq_true rfl)) d_MM_function_22 ⟨Nat.le_refl _, Nat.le_refl _⟩) hD hS (fun r9 u9 H locs hr9 hP hD hS => ?_)
      refine lv_goto (tgt := 29) hx hb d_MM_function_25 (by decide) ?_
      exact gc_retwi (u := u9) (Wf := fun (u : gMS) => mW g md u.1 u.2.1 u.2.2.1 u.2.2.2.1 u.2.2.2.2.1 u.2.2.2.2.2.1 u.2.2.2.2.2.2) (post := fun r (u : gMS) => ∃ V, sp_fun (n, k, a, b, dp, fc) (v, vk, va, vb, vl) x r V ∧ mt_MR u (n, k, a, b, dp, fc) V) hx hb hr hlk (hr9.elim (fun h9 => ⟨_, Or.inl ⟨i, ⟨hxi_i, hc14, h9.1⟩, h9.2.1, rfl⟩, h9.2.2⟩) (fun h9 => ⟨(v, vk, va, vb, vl), Or.inr ⟨(fun ⟨_, h8⟩ => h9.1 h8.2.2), h9.2.1, rfl⟩, h9.2.2⟩)) hP hD hS d_MM_function_29
