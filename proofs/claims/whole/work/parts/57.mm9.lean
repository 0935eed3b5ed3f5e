set_option maxHeartbeats 4000000 in
set_option maxRecDepth 100000 in
theorem c_MM_combine {g : gG} {md : Nat → Nat} {J : Nat → Nat → Int32} {n v kn pr ar : Nat} {X : Nat → Int64} {k a b : Nat → Nat} {dp : Nat → Nat} {fc : Nat → Bool} {vk va vb vl : Nat → Nat} {x y : Int32} {kk mo : Nat} {l : Launch} (hM : mt_MR (J, n, v, kn, pr, ar, X) (n, k, a, b, dp, fc) (v, vk, va, vb, vl)) (hkk : 1 ≤ kk ∧ kk ≤ 5) (hmo : mo ≤ 1) (hdd : ∀ x y, mt_dd kk x y = max x y + mo) :
    gc_RW (S := gMS) l y_MM_combine (gx_ws y_MM_combine b_MM_combine 5 (some .int)) 1 24 g [.ref (md 0), .int (nI kk), .int x, .int y, .int (nI mo)] (mW g md J n v kn pr ar X) (fun (u : gMS) => mW g md u.1 u.2.1 u.2.2.1 u.2.2.2.1 u.2.2.2.2.1 u.2.2.2.2.2.1 u.2.2.2.2.2.2) (fun r (u : gMS) => ∃ T, sp_cmb (n, k, a, b, dp, fc) kk x y r T ∧ mt_MR u T (v, vk, va, vb, vl)) := by
  refine gx_body (by decide) (Nat.le_of_ble_eq_true rfl) ?_
  intro p e s m below meth c ls hAt hB hl
  obtain ⟨hx, hb, hml, hown, hts, hr, hlk, hnm⟩ := hAt
  have hown : s.vm.findClass R_MM = some m.cls := hown
  obtain ⟨⟨hP, hG⟩, hD0⟩ := hB
  have hD := gx_D.self hD0
  have hS : va_S (gx_in (mW g md J n v kn pr ar X)) s.heap s.heap [] := va_S.rf
  have hl : lv_has ls 5 [(0, .ref (md 0)), (1, .int (nI kk)), (2, .int x), (3, .int y), (4, .int (nI mo))] := hl
  have hM0 := hM
  obtain ⟨-, -, hn12, hT, hE, hw, hdp, hv20, hV, hvw, hkn, hK⟩ := hM0
  refine lv_aload_n hx hb d_MM_combine_0 rfl (lv_at hl 0 rfl) ?_
  refine lv_iload_n hx hb d_MM_combine_1 rfl (lv_at hl 2 rfl) ?_
  refine vp_callSi (va_runV (own := R_MM) (As := [.int x]) (rest := []) ⟨hx, hb, hml, hown, hts⟩ (c_MM_isType (l := l) (g := g) (md := md) (J := J) (n := n) (v := v) (kn := kn) (pr := pr) (ar := ar) (X := X) (x := x) (by omega)) (cwV 1 hts (gx_goodV wd_448 wd_450 ws_14 wd_7 wd_451) rfl rfl rfl (by decide +kernel) ⟨Nat.le_of_ble_eq_true rfl, Nat.le_of_ble_eq_true rfl⟩) (gc_preV (gc_recv hP hG (ci := 5) rfl (q0 := 0) rfl) hP hG) rfl rfl hl.1 rfl (lv_room (Nat.le_of_ble_eq_true rfl)) d_MM_combine_2 ⟨Nat.le_refl _, Nat.le_refl _⟩).run (fun r hr2 => ?_)
  obtain ⟨z2, hq2, hz2⟩ := hr2
  subst hq2
  refine lv_if_eq (tgt := 38) hx hb d_MM_combine_5 (by decide) (mt_z fun hc5 => ?_) (mt_nz fun hc5 => ?_)
  · ---- 5T
    refine lv_iconst (v := -1) hx hb d_MM_combine_38 (by decide) ?_
    exact gc_retwi (u := (J, n, v, kn, pr, ar, X)) (Wf := fun (u : gMS) => mW g md u.1 u.2.1 u.2.2.1 u.2.2.2.1 u.2.2.2.2.1 u.2.2.2.2.2.1 u.2.2.2.2.2.2) (post := fun r (u : gMS) => ∃ T, sp_cmb (n, k, a, b, dp, fc) kk x y r T ∧ mt_MR u T (v, vk, va, vb, vl)) hx hb hr hlk (⟨(n, k, a, b, dp, fc), Or.inr ⟨(fun ⟨i9, _, h1⟩ => absurd (hz2.mpr ⟨i9, h1.1⟩) (by rw [hc5]; decide)), rfl, rfl⟩, hM⟩) hP hD hS d_MM_combine_39
  · ---- 5F
    obtain ⟨i, hxi_i⟩ := hz2.mp hc5
    have hlt_i := hxi_i.1
    have hp2_i : 2 ^ i ≤ 2 ^ 20 := Nat.pow_le_pow_right (n := 2) (i := i) (j := 20) (by decide) (by omega)
    have hq2_i : 2 ^ i ≤ 2 ^ 12 := Nat.pow_le_pow_right (n := 2) (i := i) (j := 12) (by decide) (by omega)
    have hd_i := hdp i hlt_i
    refine lv_aload_n hx hb d_MM_combine_8 rfl (lv_at hl 0 rfl) ?_
    refine lv_iload_n hx hb d_MM_combine_9 rfl (lv_at hl 3 rfl) ?_
    refine vp_callSi (va_runV (own := R_MM) (As := [.int y]) (rest := []) ⟨hx, hb, hml, hown, hts⟩ (c_MM_isType (l := l) (g := g) (md := md) (J := J) (n := n) (v := v) (kn := kn) (pr := pr) (ar := ar) (X := X) (x := y) (by omega)) (cwV 1 hts (gx_goodV wd_448 wd_450 ws_14 wd_7 wd_451) rfl rfl rfl (by decide +kernel) ⟨Nat.le_of_ble_eq_true rfl, Nat.le_of_ble_eq_true rfl⟩) (gc_preV (gc_recv hP hG (ci := 5) rfl (q0 := 0) rfl) hP hG) rfl rfl hl.1 rfl (lv_room (Nat.le_of_ble_eq_true rfl)) d_MM_combine_10 ⟨Nat.le_refl _, Nat.le_refl _⟩).run (fun r hr10 => ?_)
    obtain ⟨z10, hq10, hz10⟩ := hr10
    subst hq10
    refine lv_if_eq (tgt := 38) hx hb d_MM_combine_13 (by decide) (mt_z fun hc13 => ?_) (mt_nz fun hc13 => ?_)
    · ---- 5F 13T
      refine lv_iconst (v := -1) hx hb d_MM_combine_38 (by decide) ?_
      exact gc_retwi (u := (J, n, v, kn, pr, ar, X)) (Wf := fun (u : gMS) => mW g md u.1 u.2.1 u.2.2.1 u.2.2.2.1 u.2.2.2.2.1 u.2.2.2.2.2.1 u.2.2.2.2.2.2) (post := fun r (u : gMS) => ∃ T, sp_cmb (n, k, a, b, dp, fc) kk x y r T ∧ mt_MR u T (v, vk, va, vb, vl)) hx hb hr hlk (⟨(n, k, a, b, dp, fc), Or.inr ⟨(fun ⟨_, j9, h1⟩ => absurd (hz10.mpr ⟨j9, h1.2.1⟩) (by rw [hc13]; decide)), rfl, rfl⟩, hM⟩) hP hD hS d_MM_combine_39
    · ---- 5F 13F
      obtain ⟨j, hxi_j⟩ := hz10.mp hc13
      have hlt_j := hxi_j.1
      have hp2_j : 2 ^ j ≤ 2 ^ 20 := Nat.pow_le_pow_right (n := 2) (i := j) (j := 20) (by decide) (by omega)
      have hq2_j : 2 ^ j ≤ 2 ^ 12 := Nat.pow_le_pow_right (n := 2) (i := j) (j := 12) (by decide) (by omega)
      have hd_j := hdp j hlt_j
      refine lv_aload_n hx hb d_MM_combine_16 rfl (lv_at hl 0 rfl) ?_
      refine va_get (D := g.1) (own := R_MM) (ref := R_MM) (ci := 5) (v := .int (nI n)) (C := R_MM) (T := F_MM) (N := 16) hx hb hts in_MM hown hG.1 hP 0 rfl rfl 0 (by decide) (hts _ wd_383) (fun _ h9 => h9) rfl d_MM_combine_17 ?_
      refine lv_bipush (v := nI 12) hx hb d_MM_combine_20 (by decide) ?_
      refine lv_icmp_ge (tgt := 38) hx hb d_MM_combine_22 (by decide) (mt_le (by omega) (by omega) fun hc22 => ?_) (mt_nle (by omega) (by omega) fun hc22 => ?_)
      · ---- 5F 13F 22T
        refine lv_iconst (v := -1) hx hb d_MM_combine_38 (by decide) ?_
        exact gc_retwi (u := (J, n, v, kn, pr, ar, X)) (Wf := fun (u : gMS) => mW g md u.1 u.2.1 u.2.2.1 u.2.2.2.1 u.2.2.2.2.1 u.2.2.2.2.2.1 u.2.2.2.2.2.2) (post := fun r (u : gMS) => ∃ T, sp_cmb (n, k, a, b, dp, fc) kk x y r T ∧ mt_MR u T (v, vk, va, vb, vl)) hx hb hr hlk (⟨(n, k, a, b, dp, fc), Or.inr ⟨(fun ⟨_, _, h1⟩ => absurd h1.2.2.1 (Nat.not_lt.mpr hc22)), rfl, rfl⟩, hM⟩) hP hD hS d_MM_combine_39
      · ---- 5F 13F 22F
        refine lv_aload_n hx hb d_MM_combine_25 rfl (lv_at hl 0 rfl) ?_
        refine lv_iload_n hx hb d_MM_combine_26 rfl (lv_at hl 2 rfl) ?_
        refine mt_ri (y := nI i) hxi_i.2 ?_
        refine lv_iload_n hx hb d_MM_combine_27 rfl (lv_at hl 3 rfl) ?_
        refine mt_ri (y := nI j) hxi_j.2 ?_
        refine vp_callSi (va_runV (own := R_MM) (As := [.int (nI i), .int (nI j)]) (rest := []) ⟨hx, hb, hml, hown, hts⟩ (c_MM_deeper (l := l) (g := g) (md := md) (J := J) (n := n) (v := v) (kn := kn) (pr := pr) (ar := ar) (X := X) (dp := dp) (fc := fc) (x := i) (y := j) hE (by omega) hdp (by omega) (by omega)) (cwV 2 hts (gx_goodV wd_452 wd_454 ws_15 wd_7 wd_455) rfl rfl rfl (by decide +kernel) ⟨Nat.le_of_ble_eq_true rfl, Nat.le_of_ble_eq_true rfl⟩) (gc_preV (gc_recv hP hG (ci := 5) rfl (q0 := 0) rfl) hP hG) rfl rfl hl.1 rfl (lv_room (Nat.le_of_ble_eq_true rfl)) d_MM_combine_28 ⟨Nat.le_refl _, Nat.le_refl _⟩).run (fun r hr28 => ?_)
        subst hr28
        refine lv_iload hx hb d_MM_combine_31 (lv_at hl 4 rfl) ?_
        refine lv_iadd hx hb d_MM_combine_33 ?_
        refine mt_ri (y := nI (max (dp i) (dp j) + mo)) (nI_add _ _) ?_
        refine lv_iconst (v := nI 5) hx hb d_MM_combine_34 (by decide) ?_
        refine lv_icmp_le (tgt := 40) hx hb d_MM_combine_35 (by decide) (mt_le (by omega) (by omega) fun hc35 => ?_) (mt_nle (by omega) (by omega) fun hc35 => ?_)
        · ---- 5F 13F 22F 35T
          refine lv_aload_n hx hb d_MM_combine_40 rfl (lv_at hl 0 rfl) ?_
          refine lv_iload_n hx hb d_MM_combine_41 rfl (lv_at hl 1 rfl) ?_
          refine lv_iload_n hx hb d_MM_combine_42 rfl (lv_at hl 2 rfl) ?_
          refine mt_ri (y := nI i) hxi_i.2 ?_
          refine lv_iload_n hx hb d_MM_combine_43 rfl (lv_at hl 3 rfl) ?_
          refine mt_ri (y := nI j) hxi_j.2 ?_
          refine lv_aload_n hx hb d_MM_combine_44 rfl (lv_at hl 0 rfl) ?_
          refine lv_iload_n hx hb d_MM_combine_45 rfl (lv_at hl 2 rfl) ?_
          refine mt_ri (y := nI i) hxi_i.2 ?_
          refine lv_iload_n hx hb d_MM_combine_46 rfl (lv_at hl 3 rfl) ?_
          refine mt_ri (y := nI j) hxi_j.2 ?_
          refine vp_callSi (va_runV (own := R_MM) (As := [.int (nI i), .int (nI j)]) (rest := [.int (nI j), .int (nI i), .int (nI kk), .ref (md 0)]) ⟨hx, hb, hml, hown, hts⟩ (c_MM_deeper (l := l) (g := g) (md := md) (J := J) (n := n) (v := v) (kn := kn) (pr := pr) (ar := ar) (X := X) (dp := dp) (fc := fc) (x := i) (y := j) hE (by omega) hdp (by omega) (by omega)) (cwV 2 hts (gx_goodV wd_452 wd_454 ws_15 wd_7 wd_455) rfl rfl rfl (by decide +kernel) ⟨Nat.le_of_ble_eq_true rfl, Nat.le_of_ble_eq_true rfl⟩) (gc_preV (gc_recv hP hG (ci := 5) rfl (q0 := 0) rfl) hP hG) rfl rfl hl.1 rfl (lv_room (Nat.le_of_ble_eq_true rfl)) d_MM_combine_47 ⟨Nat.le_refl _, Nat.le_refl _⟩).run (fun r hr47 => ?_)
          subst hr47
          refine lv_iload hx hb d_MM_combine_50 (lv_at hl 4 rfl) ?_
          refine lv_iadd hx hb d_MM_combine_52 ?_
          refine mt_ri (y := nI (max (dp i) (dp j) + mo)) (nI_add _ _) ?_
          refine gc_cwi (va_runV (own := R_MM) (As := [.int (nI kk), .int (nI i), .int (nI j), .int (nI (max (dp i) (dp j) + mo))]) (rest := []) ⟨hx, hb, hml, hown, hts⟩ (c_MM_make (l := l) (g := g) (md := md) (J := J) (n := n) (v := v) (kn := kn) (pr := pr) (ar := ar) (X := X) (dp := dp) (fc := fc) (kk := kk) (x := i) (y := j) (dd := max (dp i) (dp j) + mo) hE hn12 (by omega) (fun _ => ⟨hlt_i, hlt_j⟩)) (cwV 4 hts (gx_goodV wd_436 wd_438 ws_12 wd_7 wd_439) rfl rfl rfl (by decide +kernel) ⟨Nat.le_of_ble_eq_true rfl, Nat.le_of_ble_eq_true rfl⟩) (gc_preVW (gc_recv hP hG (ci := 5) rfl (q0 := 0) rfl) hP hG hD) rfl rfl hl.1 rfl (lv_room (Nat.le_of_ble_eq_true rfl)) d_MM_combine_53 ⟨Nat.le_refl _, Nat.le_refl _⟩) hD hS (fun r9 J9 H locs hr9 hP hD hS => ?_)
          obtain ⟨hr8, hJ⟩ := hr9
          subst hr8
          have hP : va_P g.1 gx_cl (mW g md J9 (n + 1) v 0 pr ar X) H := hP
          have hD : va_D (gx_in (mW g md J n v kn pr ar X)) (mW g md J9 (n + 1) v 0 pr ar X) := hD
          exact gc_retwi (u := (J9, n + 1, v, 0, pr, ar, X)) (Wf := fun (u : gMS) => mW g md u.1 u.2.1 u.2.2.1 u.2.2.2.1 u.2.2.2.2.1 u.2.2.2.2.2.1 u.2.2.2.2.2.2) (post := fun r (u : gMS) => ∃ T, sp_cmb (n, k, a, b, dp, fc) kk x y r T ∧ mt_MR u T (v, vk, va, vb, vl)) hx hb hr hlk (⟨_, Or.inl ⟨i, j, ⟨hxi_i, hxi_j, hc22, by rw [hdd]; exact hc35⟩, rfl, rfl⟩, mt_MR_addT hM hc22 (by rw [hdd]; exact hJ) (by rw [hdd]; exact hc35) (mt_wf_add hw (by omega) (fun _ _ => ⟨hlt_i, hlt_j⟩) (by omega) (by omega))⟩) hP hD hS d_MM_combine_56
        · ---- 5F 13F 22F 35F
          refine lv_iconst (v := -1) hx hb d_MM_combine_38 (by decide) ?_
          exact gc_retwi (u := (J, n, v, kn, pr, ar, X)) (Wf := fun (u : gMS) => mW g md u.1 u.2.1 u.2.2.1 u.2.2.2.1 u.2.2.2.2.1 u.2.2.2.2.2.1 u.2.2.2.2.2.2) (post := fun r (u : gMS) => ∃ T, sp_cmb (n, k, a, b, dp, fc) kk x y r T ∧ mt_MR u T (v, vk, va, vb, vl)) hx hb hr hlk (⟨(n, k, a, b, dp, fc), Or.inr ⟨(fun ⟨i9, j9, h1⟩ => by have e1 := sp_is_inj (show n ≤ 100 by omega) h1.1 hxi_i; have e2 := sp_is_inj (show n ≤ 100 by omega) h1.2.1 hxi_j; subst e1; subst e2; have h2 := h1.2.2.2; rw [hdd] at h2; exact absurd h2 (Nat.not_le.mpr hc35)), rfl, rfl⟩, hM⟩) hP hD hS d_MM_combine_39

set_option maxHeartbeats 4000000 in
set_option maxRecDepth 100000 in
theorem c_MM_product {g : gG} {md : Nat → Nat} {J : Nat → Nat → Int32} {n v kn pr ar : Nat} {X : Nat → Int64} {k a b : Nat → Nat} {dp : Nat → Nat} {fc : Nat → Bool} {vk va vb vl : Nat → Nat} {x y : Int32} {l : Launch} (hM : mt_MR (J, n, v, kn, pr, ar, X) (n, k, a, b, dp, fc) (v, vk, va, vb, vl))  :
    gc_RW (S := gMS) l y_MM_product (gx_ws y_MM_product b_MM_product 3 (some .int)) 2 48 g [.ref (md 0), .int x, .int y] (mW g md J n v kn pr ar X) (fun (u : gMS) => mW g md u.1 u.2.1 u.2.2.1 u.2.2.2.1 u.2.2.2.2.1 u.2.2.2.2.2.1 u.2.2.2.2.2.2) (fun r (u : gMS) => ∃ T, sp_cmb (n, k, a, b, dp, fc) 1 x y r T ∧ mt_MR u T (v, vk, va, vb, vl)) := by
  refine gx_body (by decide) (Nat.le_of_ble_eq_true rfl) ?_
  intro p e s m below meth c ls hAt hB hl
  obtain ⟨hx, hb, hml, hown, hts, hr, hlk, hnm⟩ := hAt
  have hown : s.vm.findClass R_MM = some m.cls := hown
  obtain ⟨⟨hP, hG⟩, hD0⟩ := hB
  have hD := gx_D.self hD0
  have hS : va_S (gx_in (mW g md J n v kn pr ar X)) s.heap s.heap [] := va_S.rf
  have hl : lv_has ls 3 [(0, .ref (md 0)), (1, .int x), (2, .int y)] := hl
  have hM0 := hM
  obtain ⟨-, -, hn12, hT, hE, hw, hdp, hv20, hV, hvw, hkn, hK⟩ := hM0
  refine lv_aload_n hx hb d_MM_product_0 rfl (lv_at hl 0 rfl) ?_
  refine lv_iconst (v := nI 1) hx hb d_MM_product_1 (by decide) ?_
  refine lv_iload_n hx hb d_MM_product_2 rfl (lv_at hl 1 rfl) ?_
  refine lv_iload_n hx hb d_MM_product_3 rfl (lv_at hl 2 rfl) ?_
  refine lv_iconst (v := nI 1) hx hb d_MM_product_4 (by decide) ?_
  refine gc_cwi (va_runV (own := R_MM) (As := [.int (nI 1), .int x, .int y, .int (nI 1)]) (rest := []) ⟨hx, hb, hml, hown, hts⟩ (c_MM_combine (l := l) (g := g) (md := md) (J := J) (n := n) (v := v) (kn := kn) (pr := pr) (ar := ar) (X := X) (k := k) (a := a) (b := b) (dp := dp) (fc := fc) (vk := vk) (va := va) (vb := vb) (vl := vl) (kk := 1) (x := x) (y := y) (mo := 1) hM (by decide) (by decide) (mt_dd_k1)) (cwV 4 hts (gx_goodV wd_444 wd_446 ws_13 wd_7 wd_447) rfl rfl rfl (by decide +kernel) ⟨Nat.le_of_ble_eq_true rfl, Nat.le_of_ble_eq_true rfl⟩) (gc_preVW (gc_recv hP hG (ci := 5) rfl (q0 := 0) rfl) hP hG hD) rfl rfl hl.1 rfl (lv_room (Nat.le_of_ble_eq_true rfl)) d_MM_product_5 ⟨Nat.le_refl _, Nat.le_refl _⟩) hD hS (fun r9 u9 H locs hr9 hP hD hS => ?_)
  exact gc_retwi (u := u9) (Wf := fun (u : gMS) => mW g md u.1 u.2.1 u.2.2.1 u.2.2.2.1 u.2.2.2.2.1 u.2.2.2.2.2.1 u.2.2.2.2.2.2) (post := fun r (u : gMS) => ∃ T, sp_cmb (n, k, a, b, dp, fc) 1 x y r T ∧ mt_MR u T (v, vk, va, vb, vl)) hx hb hr hlk (hr9) hP hD hS d_MM_product_8

set_option maxHeartbeats 4000000 in
set_option maxRecDepth 100000 in
theorem c_MM_arrow {g : gG} {md : Nat → Nat} {J : Nat → Nat → Int32} {n v kn pr ar : Nat} {X : Nat → Int64} {k a b : Nat → Nat} {dp : Nat → Nat} {fc : Nat → Bool} {vk va vb vl : Nat → Nat} {x y : Int32} {l : Launch} (hM : mt_MR (J, n, v, kn, pr, ar, X) (n, k, a, b, dp, fc) (v, vk, va, vb, vl))  :
    gc_RW (S := gMS) l y_MM_arrow (gx_ws y_MM_arrow b_MM_arrow 3 (some .int)) 2 48 g [.ref (md 0), .int x, .int y] (mW g md J n v kn pr ar X) (fun (u : gMS) => mW g md u.1 u.2.1 u.2.2.1 u.2.2.2.1 u.2.2.2.2.1 u.2.2.2.2.2.1 u.2.2.2.2.2.2) (fun r (u : gMS) => ∃ T, sp_cmb (n, k, a, b, dp, fc) 2 x y r T ∧ mt_MR u T (v, vk, va, vb, vl)) := by
  refine gx_body (by decide) (Nat.le_of_ble_eq_true rfl) ?_
  intro p e s m below meth c ls hAt hB hl
  obtain ⟨hx, hb, hml, hown, hts, hr, hlk, hnm⟩ := hAt
  have hown : s.vm.findClass R_MM = some m.cls := hown
  obtain ⟨⟨hP, hG⟩, hD0⟩ := hB
  have hD := gx_D.self hD0
  have hS : va_S (gx_in (mW g md J n v kn pr ar X)) s.heap s.heap [] := va_S.rf
  have hl : lv_has ls 3 [(0, .ref (md 0)), (1, .int x), (2, .int y)] := hl
  have hM0 := hM
  obtain ⟨-, -, hn12, hT, hE, hw, hdp, hv20, hV, hvw, hkn, hK⟩ := hM0
  refine lv_aload_n hx hb d_MM_arrow_0 rfl (lv_at hl 0 rfl) ?_
  refine lv_iconst (v := nI 2) hx hb d_MM_arrow_1 (by decide) ?_
  refine lv_iload_n hx hb d_MM_arrow_2 rfl (lv_at hl 1 rfl) ?_
  refine lv_iload_n hx hb d_MM_arrow_3 rfl (lv_at hl 2 rfl) ?_
  refine lv_iconst (v := nI 1) hx hb d_MM_arrow_4 (by decide) ?_
  refine gc_cwi (va_runV (own := R_MM) (As := [.int (nI 2), .int x, .int y, .int (nI 1)]) (rest := []) ⟨hx, hb, hml, hown, hts⟩ (c_MM_combine (l := l) (g := g) (md := md) (J := J) (n := n) (v := v) (kn := kn) (pr := pr) (ar := ar) (X := X) (k := k) (a := a) (b := b) (dp := dp) (fc := fc) (vk := vk) (va := va) (vb := vb) (vl := vl) (kk := 2) (x := x) (y := y) (mo := 1) hM (by decide) (by decide) (mt_dd_k2)) (cwV 4 hts (gx_goodV wd_444 wd_446 ws_13 wd_7 wd_447) rfl rfl rfl (by decide +kernel) ⟨Nat.le_of_ble_eq_true rfl, Nat.le_of_ble_eq_true rfl⟩) (gc_preVW (gc_recv hP hG (ci := 5) rfl (q0 := 0) rfl) hP hG hD) rfl rfl hl.1 rfl (lv_room (Nat.le_of_ble_eq_true rfl)) d_MM_arrow_5 ⟨Nat.le_refl _, Nat.le_refl _⟩) hD hS (fun r9 u9 H locs hr9 hP hD hS => ?_)
  exact gc_retwi (u := u9) (Wf := fun (u : gMS) => mW g md u.1 u.2.1 u.2.2.1 u.2.2.2.1 u.2.2.2.2.1 u.2.2.2.2.2.1 u.2.2.2.2.2.2) (post := fun r (u : gMS) => ∃ T, sp_cmb (n, k, a, b, dp, fc) 2 x y r T ∧ mt_MR u T (v, vk, va, vb, vl)) hx hb hr hlk (hr9) hP hD hS d_MM_arrow_8

set_option maxHeartbeats 4000000 in
set_option maxRecDepth 100000 in
theorem c_MM_union {g : gG} {md : Nat → Nat} {J : Nat → Nat → Int32} {n v kn pr ar : Nat} {X : Nat → Int64} {k a b : Nat → Nat} {dp : Nat → Nat} {fc : Nat → Bool} {vk va vb vl : Nat → Nat} {x y : Int32} {l : Launch} (hM : mt_MR (J, n, v, kn, pr, ar, X) (n, k, a, b, dp, fc) (v, vk, va, vb, vl))  :
    gc_RW (S := gMS) l y_MM_union (gx_ws y_MM_union b_MM_union 3 (some .int)) 2 48 g [.ref (md 0), .int x, .int y] (mW g md J n v kn pr ar X) (fun (u : gMS) => mW g md u.1 u.2.1 u.2.2.1 u.2.2.2.1 u.2.2.2.2.1 u.2.2.2.2.2.1 u.2.2.2.2.2.2) (fun r (u : gMS) => ∃ T, sp_cmb (n, k, a, b, dp, fc) 3 x y r T ∧ mt_MR u T (v, vk, va, vb, vl)) := by
  refine gx_body (by decide) (Nat.le_of_ble_eq_true rfl) ?_
  intro p e s m below meth c ls hAt hB hl
  obtain ⟨hx, hb, hml, hown, hts, hr, hlk, hnm⟩ := hAt
  have hown : s.vm.findClass R_MM = some m.cls := hown
  obtain ⟨⟨hP, hG⟩, hD0⟩ := hB
  have hD := gx_D.self hD0
  have hS : va_S (gx_in (mW g md J n v kn pr ar X)) s.heap s.heap [] := va_S.rf
  have hl : lv_has ls 3 [(0, .ref (md 0)), (1, .int x), (2, .int y)] := hl
  have hM0 := hM
  obtain ⟨-, -, hn12, hT, hE, hw, hdp, hv20, hV, hvw, hkn, hK⟩ := hM0
  refine lv_aload_n hx hb d_MM_union_0 rfl (lv_at hl 0 rfl) ?_
  refine lv_iconst (v := nI 3) hx hb d_MM_union_1 (by decide) ?_
  refine lv_iload_n hx hb d_MM_union_2 rfl (lv_at hl 1 rfl) ?_
  refine lv_iload_n hx hb d_MM_union_3 rfl (lv_at hl 2 rfl) ?_
  refine lv_iconst (v := nI 0) hx hb d_MM_union_4 (by decide) ?_
  refine gc_cwi (va_runV (own := R_MM) (As := [.int (nI 3), .int x, .int y, .int (nI 0)]) (rest := []) ⟨hx, hb, hml, hown, hts⟩ (c_MM_combine (l := l) (g := g) (md := md) (J := J) (n := n) (v := v) (kn := kn) (pr := pr) (ar := ar) (X := X) (k := k) (a := a) (b := b) (dp := dp) (fc := fc) (vk := vk) (va := va) (vb := vb) (vl := vl) (kk := 3) (x := x) (y := y) (mo := 0) hM (by decide) (by decide) (mt_dd_k3)) (cwV 4 hts (gx_goodV wd_444 wd_446 ws_13 wd_7 wd_447) rfl rfl rfl (by decide +kernel) ⟨Nat.le_of_ble_eq_true rfl, Nat.le_of_ble_eq_true rfl⟩) (gc_preVW (gc_recv hP hG (ci := 5) rfl (q0 := 0) rfl) hP hG hD) rfl rfl hl.1 rfl (lv_room (Nat.le_of_ble_eq_true rfl)) d_MM_union_5 ⟨Nat.le_refl _, Nat.le_refl _⟩) hD hS (fun r9 u9 H locs hr9 hP hD hS => ?_)
  exact gc_retwi (u := u9) (Wf := fun (u : gMS) => mW g md u.1 u.2.1 u.2.2.1 u.2.2.2.1 u.2.2.2.2.1 u.2.2.2.2.2.1 u.2.2.2.2.2.2) (post := fun r (u : gMS) => ∃ T, sp_cmb (n, k, a, b, dp, fc) 3 x y r T ∧ mt_MR u T (v, vk, va, vb, vl)) hx hb hr hlk (hr9) hP hD hS d_MM_union_8

set_option maxHeartbeats 4000000 in
set_option maxRecDepth 100000 in
theorem c_MM_meet {g : gG} {md : Nat → Nat} {J : Nat → Nat → Int32} {n v kn pr ar : Nat} {X : Nat → Int64} {k a b : Nat → Nat} {dp : Nat → Nat} {fc : Nat → Bool} {vk va vb vl : Nat → Nat} {x y : Int32} {l : Launch} (hM : mt_MR (J, n, v, kn, pr, ar, X) (n, k, a, b, dp, fc) (v, vk, va, vb, vl))  :
    gc_RW (S := gMS) l y_MM_meet (gx_ws y_MM_meet b_MM_meet 3 (some .int)) 2 48 g [.ref (md 0), .int x, .int y] (mW g md J n v kn pr ar X) (fun (u : gMS) => mW g md u.1 u.2.1 u.2.2.1 u.2.2.2.1 u.2.2.2.2.1 u.2.2.2.2.2.1 u.2.2.2.2.2.2) (fun r (u : gMS) => ∃ T, sp_cmb (n, k, a, b, dp, fc) 4 x y r T ∧ mt_MR u T (v, vk, va, vb, vl)) := by
  refine gx_body (by decide) (Nat.le_of_ble_eq_true rfl) ?_
  intro p e s m below meth c ls hAt hB hl
  obtain ⟨hx, hb, hml, hown, hts, hr, hlk, hnm⟩ := hAt
  have hown : s.vm.findClass R_MM = some m.cls := hown
  obtain ⟨⟨hP, hG⟩, hD0⟩ := hB
  have hD := gx_D.self hD0
  have hS : va_S (gx_in (mW g md J n v kn pr ar X)) s.heap s.heap [] := va_S.rf
  have hl : lv_has ls 3 [(0, .ref (md 0)), (1, .int x), (2, .int y)] := hl
  have hM0 := hM
  obtain ⟨-, -, hn12, hT, hE, hw, hdp, hv20, hV, hvw, hkn, hK⟩ := hM0
  refine lv_aload_n hx hb d_MM_meet_0 rfl (lv_at hl 0 rfl) ?_
  refine lv_iconst (v := nI 4) hx hb d_MM_meet_1 (by decide) ?_
  refine lv_iload_n hx hb d_MM_meet_2 rfl (lv_at hl 1 rfl) ?_
  refine lv_iload_n hx hb d_MM_meet_3 rfl (lv_at hl 2 rfl) ?_
  refine lv_iconst (v := nI 0) hx hb d_MM_meet_4 (by decide) ?_
  refine gc_cwi (va_runV (own := R_MM) (As := [.int (nI 4), .int x, .int y, .int (nI 0)]) (rest := []) ⟨hx, hb, hml, hown, hts⟩ (c_MM_combine (l := l) (g := g) (md := md) (J := J) (n := n) (v := v) (kn := kn) (pr := pr) (ar := ar) (X := X) (k := k) (a := a) (b := b) (dp := dp) (fc := fc) (vk := vk) (va := va) (vb := vb) (vl := vl) (kk := 4) (x := x) (y := y) (mo := 0) hM (by decide) (by decide) (mt_dd_k4)) (cwV 4 hts (gx_goodV wd_444 wd_446 ws_13 wd_7 wd_447) rfl rfl rfl (by decide +kernel) ⟨Nat.le_of_ble_eq_true rfl, Nat.le_of_ble_eq_true rfl⟩) (gc_preVW (gc_recv hP hG (ci := 5) rfl (q0 := 0) rfl) hP hG hD) rfl rfl hl.1 rfl (lv_room (Nat.le_of_ble_eq_true rfl)) d_MM_meet_5 ⟨Nat.le_refl _, Nat.le_refl _⟩) hD hS (fun r9 u9 H locs hr9 hP hD hS => ?_)
  exact gc_retwi (u := u9) (Wf := fun (u : gMS) => mW g md u.1 u.2.1 u.2.2.1 u.2.2.2.1 u.2.2.2.2.1 u.2.2.2.2.2.1 u.2.2.2.2.2.2) (post := fun r (u : gMS) => ∃ T, sp_cmb (n, k, a, b, dp, fc) 4 x y r T ∧ mt_MR u T (v, vk, va, vb, vl)) hx hb hr hlk (hr9) hP hD hS d_MM_meet_8

set_option maxHeartbeats 4000000 in
set_option maxRecDepth 100000 in
theorem c_MM_not {g : gG} {md : Nat → Nat} {J : Nat → Nat → Int32} {n v kn pr ar : Nat} {X : Nat → Int64} {k a b : Nat → Nat} {dp : Nat → Nat} {fc : Nat → Bool} {vk va vb vl : Nat → Nat} {x : Int32} {l : Launch} (hM : mt_MR (J, n, v, kn, pr, ar, X) (n, k, a, b, dp, fc) (v, vk, va, vb, vl))  :
    gc_RW (S := gMS) l y_MM_not (gx_ws y_MM_not b_MM_not 2 (some .int)) 2 48 g [.ref (md 0), .int x] (mW g md J n v kn pr ar X) (fun (u : gMS) => mW g md u.1 u.2.1 u.2.2.1 u.2.2.2.1 u.2.2.2.2.1 u.2.2.2.2.2.1 u.2.2.2.2.2.2) (fun r (u : gMS) => ∃ T, sp_cmb (n, k, a, b, dp, fc) 5 x x r T ∧ mt_MR u T (v, vk, va, vb, vl)) := by
  refine gx_body (by decide) (Nat.le_of_ble_eq_true rfl) ?_
  intro p e s m below meth c ls hAt hB hl
  obtain ⟨hx, hb, hml, hown, hts, hr, hlk, hnm⟩ := hAt
  have hown : s.vm.findClass R_MM = some m.cls := hown
  obtain ⟨⟨hP, hG⟩, hD0⟩ := hB
  have hD := gx_D.self hD0
  have hS : va_S (gx_in (mW g md J n v kn pr ar X)) s.heap s.heap [] := va_S.rf
  have hl : lv_has ls 2 [(0, .ref (md 0)), (1, .int x)] := hl
  have hM0 := hM
  obtain ⟨-, -, hn12, hT, hE, hw, hdp, hv20, hV, hvw, hkn, hK⟩ := hM0
  refine lv_aload_n hx hb d_MM_not_0 rfl (lv_at hl 0 rfl) ?_
  refine lv_iconst (v := nI 5) hx hb d_MM_not_1 (by decide) ?_
  refine lv_iload_n hx hb d_MM_not_2 rfl (lv_at hl 1 rfl) ?_
  refine lv_iload_n hx hb d_MM_not_3 rfl (lv_at hl 1 rfl) ?_
  refine lv_iconst (v := nI 0) hx hb d_MM_not_4 (by decide) ?_
  refine gc_cwi (va_runV (own := R_MM) (As := [.int (nI 5), .int x, .int x, .int (nI 0)]) (rest := []) ⟨hx, hb, hml, hown, hts⟩ (c_MM_combine (l := l) (g := g) (md := md) (J := J) (n := n) (v := v) (kn := kn) (pr := pr) (ar := ar) (X := X) (k := k) (a := a) (b := b) (dp := dp) (fc := fc) (vk := vk) (va := va) (vb := vb) (vl := vl) (kk := 5) (x := x) (y := x) (mo := 0) hM (by decide) (by decide) (mt_dd_k5)) (cwV 4 hts (gx_goodV wd_444 wd_446 ws_13 wd_7 wd_447) rfl rfl rfl (by decide +kernel) ⟨Nat.le_of_ble_eq_true rfl, Nat.le_of_ble_eq_true rfl⟩) (gc_preVW (gc_recv hP hG (ci := 5) rfl (q0 := 0) rfl) hP hG hD) rfl rfl hl.1 rfl (lv_room (Nat.le_of_ble_eq_true rfl)) d_MM_not_5 ⟨Nat.le_refl _, Nat.le_refl _⟩) hD hS (fun r9 u9 H locs hr9 hP hD hS => ?_)
  exact gc_retwi (u := u9) (Wf := fun (u : gMS) => mW g md u.1 u.2.1 u.2.2.1 u.2.2.2.1 u.2.2.2.2.1 u.2.2.2.2.2.1 u.2.2.2.2.2.2) (post := fun r (u : gMS) => ∃ T, sp_cmb (n, k, a, b, dp, fc) 5 x x r T ∧ mt_MR u T (v, vk, va, vb, vl)) hx hb hr hlk (hr9) hP hD hS d_MM_not_8

set_option maxHeartbeats 4000000 in
set_option maxRecDepth 100000 in
theorem c_MM_constants {g : gG} {md : Nat → Nat} {J : Nat → Nat → Int32} {n v kn pr ar : Nat} {X : Nat → Int64} {k a b : Nat → Nat} {dp : Nat → Nat} {fc : Nat → Bool} {vk va vb vl : Nat → Nat} {x : Int32} {l : Launch} (hM : mt_MR (J, n, v, kn, pr, ar, X) (n, k, a, b, dp, fc) (v, vk, va, vb, vl))  :
    gc_RW (S := gMS) l y_MM_constants (gx_ws y_MM_constants b_MM_constants 2 (some .int)) 1 24 g [.ref (md 0), .int x] (mW g md J n v kn pr ar X) (fun (u : gMS) => mW g md u.1 u.2.1 u.2.2.1 u.2.2.2.1 u.2.2.2.2.1 u.2.2.2.2.2.1 u.2.2.2.2.2.2) (fun r (u : gMS) => ∃ T, sp_cst (n, k, a, b, dp, fc) x r T ∧ mt_MR u T (v, vk, va, vb, vl)) := by
  refine gx_body (by decide) (Nat.le_of_ble_eq_true rfl) ?_
  intro p e s m below meth c ls hAt hB hl
  obtain ⟨hx, hb, hml, hown, hts, hr, hlk, hnm⟩ := hAt
  have hown : s.vm.findClass R_MM = some m.cls := hown
  obtain ⟨⟨hP, hG⟩, hD0⟩ := hB
  have hD := gx_D.self hD0
  have hS : va_S (gx_in (mW g md J n v kn pr ar X)) s.heap s.heap [] := va_S.rf
  have hl : lv_has ls 2 [(0, .ref (md 0)), (1, .int x)] := hl
  have hM0 := hM
  obtain ⟨-, -, hn12, hT, hE, hw, hdp, hv20, hV, hvw, hkn, hK⟩ := hM0
  refine lv_iload_n hx hb d_MM_constants_0 rfl (lv_at hl 1 rfl) ?_
  refine lv_if_lt (tgt := 19) hx hb d_MM_constants_1 (by decide) (fun hc1 => ?_) (fun hc1 => ?_)
  · ---- 1T
    refine lv_iconst (v := -1) hx hb d_MM_constants_19 (by decide) ?_
    refine lv_goto (tgt := 31) hx hb d_MM_constants_20 (by decide) ?_
    exact gc_retwi (u := (J, n, v, kn, pr, ar, X)) (Wf := fun (u : gMS) => mW g md u.1 u.2.1 u.2.2.1 u.2.2.2.1 u.2.2.2.2.1 u.2.2.2.2.2.1 u.2.2.2.2.2.2) (post := fun r (u : gMS) => ∃ T, sp_cst (n, k, a, b, dp, fc) x r T ∧ mt_MR u T (v, vk, va, vb, vl)) hx hb hr hlk (⟨(n, k, a, b, dp, fc), Or.inr ⟨(fun ⟨i9, h1, _⟩ => absurd hc1 (by rw [h1.2]; exact nI_pos (by have := h1.1; omega))), rfl, rfl⟩, hM⟩) hP hD hS d_MM_constants_31
  · ---- 1F
    refine lv_iload_n hx hb d_MM_constants_4 rfl (lv_at hl 1 rfl) ?_
    refine lv_bipush (v := nI 63) hx hb d_MM_constants_5 (by decide) ?_
    refine lv_icmp_gt (tgt := 19) hx hb d_MM_constants_7 (by decide) (fun hc7 => ?_) (fun hc7 => ?_)
    · ---- 1F 7T
      refine lv_iconst (v := -1) hx hb d_MM_constants_19 (by decide) ?_
      refine lv_goto (tgt := 31) hx hb d_MM_constants_20 (by decide) ?_
      exact gc_retwi (u := (J, n, v, kn, pr, ar, X)) (Wf := fun (u : gMS) => mW g md u.1 u.2.1 u.2.2.1 u.2.2.2.1 u.2.2.2.2.1 u.2.2.2.2.2.1 u.2.2.2.2.2.2) (post := fun r (u : gMS) => ∃ T, sp_cst (n, k, a, b, dp, fc) x r T ∧ mt_MR u T (v, vk, va, vb, vl)) hx hb hr hlk (⟨(n, k, a, b, dp, fc), Or.inr ⟨(fun ⟨i9, h1, _⟩ => absurd hc7 (by rw [h1.2]; exact nI_nlt (by have := h1.1; omega) (by decide))), rfl, rfl⟩, hM⟩) hP hD hS d_MM_constants_31
    · ---- 1F 7F
      obtain ⟨i, hxi_i⟩ := mt_64 hc1 hc7
      have hlt_i := hxi_i.1
      refine lv_aload_n hx hb d_MM_constants_10 rfl (lv_at hl 0 rfl) ?_
      refine va_get (D := g.1) (own := R_MM) (ref := R_MM) (ci := 5) (v := .int (nI n)) (C := R_MM) (T := F_MM) (N := 16) hx hb hts in_MM hown hG.1 hP 0 rfl rfl 0 (by decide) (hts _ wd_383) (fun _ h9 => h9) rfl d_MM_constants_11 ?_
      refine lv_bipush (v := nI 12) hx hb d_MM_constants_14 (by decide) ?_
      refine lv_icmp_lt (tgt := 23) hx hb d_MM_constants_16 (by decide) (mt_lt (by omega) (by omega) fun hc16 => ?_) (mt_nlt (by omega) (by omega) fun hc16 => ?_)
      · ---- 1F 7F 16T
        refine lv_aload_n hx hb d_MM_constants_23 rfl (lv_at hl 0 rfl) ?_
        refine lv_iconst (v := nI 0) hx hb d_MM_constants_24 (by decide) ?_
        refine lv_iload_n hx hb d_MM_constants_25 rfl (lv_at hl 1 rfl) ?_
        refine mt_ri (y := nI i) hxi_i.2 ?_
        refine lv_iconst (v := nI 0) hx hb d_MM_constants_26 (by decide) ?_
        refine lv_iconst (v := nI 0) hx hb d_MM_constants_27 (by decide) ?_
        refine gc_cwi (va_runV (own := R_MM) (As := [.int (nI 0), .int (nI i), .int (nI 0), .int (nI 0)]) (rest := []) ⟨hx, hb, hml, hown, hts⟩ (c_MM_make (l := l) (g := g) (md := md) (J := J) (n := n) (v := v) (kn := kn) (pr := pr) (ar := ar) (X := X) (dp := dp) (fc := fc) (kk := 0) (x := i) (y := 0) (dd := 0) hE hn12 (by decide) (fun h9 => absurd h9 (by decide))) (cwV 4 hts (gx_goodV wd_436 wd_438 ws_12 wd_7 wd_439) rfl rfl rfl (by decide +kernel) ⟨Nat.le_of_ble_eq_true rfl, Nat.le_of_ble_eq_true rfl⟩) (gc_preVW (gc_recv hP hG (ci := 5) rfl (q0 := 0) rfl) hP hG hD) rfl rfl hl.1 rfl (lv_room (Nat.le_of_ble_eq_true rfl)) d_MM_constants_28 ⟨Nat.le_refl _, Nat.le_refl _⟩) hD hS (fun r9 J9 H locs hr9 hP hD hS => ?_)
        obtain ⟨hr8, hJ⟩ := hr9
        subst hr8
        have hP : va_P g.1 gx_cl (mW g md J9 (n + 1) v 0 pr ar X) H := hP
        have hD : va_D (gx_in (mW g md J n v kn pr ar X)) (mW g md J9 (n + 1) v 0 pr ar X) := hD
        exact gc_retwi (u := (J9, n + 1, v, 0, pr, ar, X)) (Wf := fun (u : gMS) => mW g md u.1 u.2.1 u.2.2.1 u.2.2.2.1 u.2.2.2.2.1 u.2.2.2.2.2.1 u.2.2.2.2.2.2) (post := fun r (u : gMS) => ∃ T, sp_cst (n, k, a, b, dp, fc) x r T ∧ mt_MR u T (v, vk, va, vb, vl)) hx hb hr hlk (⟨_, Or.inl ⟨i, hxi_i, hc16, rfl, rfl⟩, mt_MR_addT hM hc16 hJ (by decide) (mt_wf_add hw (by decide) (fun h9 => absurd rfl h9) (by omega) (by decide))⟩) hP hD hS d_MM_constants_31
      · ---- 1F 7F 16F
        refine lv_iconst (v := -1) hx hb d_MM_constants_19 (by decide) ?_
        refine lv_goto (tgt := 31) hx hb d_MM_constants_20 (by decide) ?_
        exact gc_retwi (u := (J, n, v, kn, pr, ar, X)) (Wf := fun (u : gMS) => mW g md u.1 u.2.1 u.2.2.1 u.2.2.2.1 u.2.2.2.2.1 u.2.2.2.2.2.1 u.2.2.2.2.2.2) (post := fun r (u : gMS) => ∃ T, sp_cst (n, k, a, b, dp, fc) x r T ∧ mt_MR u T (v, vk, va, vb, vl)) hx hb hr hlk (⟨(n, k, a, b, dp, fc), Or.inr ⟨(fun ⟨_, _, h1⟩ => absurd h1 (Nat.not_lt.mpr hc16)), rfl, rfl⟩, hM⟩) hP hD hS d_MM_constants_31

set_option maxHeartbeats 4000000 in
set_option maxRecDepth 100000 in
theorem c_MM_any {g : gG} {md : Nat → Nat} {J : Nat → Nat → Int32} {n v kn pr ar : Nat} {X : Nat → Int64} {k a b : Nat → Nat} {dp : Nat → Nat} {fc : Nat → Bool} {vk va vb vl : Nat → Nat}  {l : Launch} (hM : mt_MR (J, n, v, kn, pr, ar, X) (n, k, a, b, dp, fc) (v, vk, va, vb, vl))  :
    gc_RW (S := gMS) l y_MM_any (gx_ws y_MM_any b_MM_any 1 (some .int)) 1 24 g [.ref (md 0)] (mW g md J n v kn pr ar X) (fun (u : gMS) => mW g md u.1 u.2.1 u.2.2.1 u.2.2.2.1 u.2.2.2.2.1 u.2.2.2.2.2.1 u.2.2.2.2.2.2) (fun r (u : gMS) => ∃ T, sp_any (n, k, a, b, dp, fc) r T ∧ mt_MR u T (v, vk, va, vb, vl)) := by
  refine gx_body (by decide) (Nat.le_of_ble_eq_true rfl) ?_
  intro p e s m below meth c ls hAt hB hl
  obtain ⟨hx, hb, hml, hown, hts, hr, hlk, hnm⟩ := hAt
  have hown : s.vm.findClass R_MM = some m.cls := hown
  obtain ⟨⟨hP, hG⟩, hD0⟩ := hB
  have hD := gx_D.self hD0
  have hS : va_S (gx_in (mW g md J n v kn pr ar X)) s.heap s.heap [] := va_S.rf
  have hl : lv_has ls 1 [(0, .ref (md 0))] := hl
  have hM0 := hM
  obtain ⟨-, -, hn12, hT, hE, hw, hdp, hv20, hV, hvw, hkn, hK⟩ := hM0
  refine lv_aload_n hx hb d_MM_any_0 rfl (lv_at hl 0 rfl) ?_
  refine va_get (D := g.1) (own := R_MM) (ref := R_MM) (ci := 5) (v := .int (nI n)) (C := R_MM) (T := F_MM) (N := 16) hx hb hts in_MM hown hG.1 hP 0 rfl rfl 0 (by decide) (hts _ wd_383) (fun _ h9 => h9) rfl d_MM_any_1 ?_
  refine lv_bipush (v := nI 12) hx hb d_MM_any_4 (by decide) ?_
  refine lv_icmp_lt (tgt := 13) hx hb d_MM_any_6 (by decide) (mt_lt (by omega) (by omega) fun hc6 => ?_) (mt_nlt (by omega) (by omega) fun hc6 => ?_)
  · ---- 6T
    refine lv_aload_n hx hb d_MM_any_13 rfl (lv_at hl 0 rfl) ?_
    refine lv_bipush (v := nI 6) hx hb d_MM_any_14 (by decide) ?_
    refine lv_iconst (v := nI 0) hx hb d_MM_any_16 (by decide) ?_
    refine lv_iconst (v := nI 0) hx hb d_MM_any_17 (by decide) ?_
    refine lv_iconst (v := nI 0) hx hb d_MM_any_18 (by decide) ?_
    refine gc_cwi (va_runV (own := R_MM) (As := [.int (nI 6), .int (nI 0), .int (nI 0), .int (nI 0)]) (rest := []) ⟨hx, hb, hml, hown, hts⟩ (c_MM_make (l := l) (g := g) (md := md) (J := J) (n := n) (v := v) (kn := kn) (pr := pr) (ar := ar) (X := X) (dp := dp) (fc := fc) (kk := 6) (x := 0) (y := 0) (dd := 0) hE hn12 (by decide) (fun h9 => absurd h9 (by decide))) (cwV 4 hts (gx_goodV wd_436 wd_438 ws_12 wd_7 wd_439) rfl rfl rfl (by decide +kernel) ⟨Nat.le_of_ble_eq_true rfl, Nat.le_of_ble_eq_true rfl⟩) (gc_preVW (gc_recv hP hG (ci := 5) rfl (q0 := 0) rfl) hP hG hD) rfl rfl hl.1 rfl (lv_room (Nat.le_of_ble_eq_true rfl)) d_MM_any_19 ⟨Nat.le_refl _, Nat.le_refl _⟩) hD hS (fun r9 J9 H locs hr9 hP hD hS => ?_)
    obtain ⟨hr8, hJ⟩ := hr9
    subst hr8
    have hP : va_P g.1 gx_cl (mW g md J9 (n + 1) v 0 pr ar X) H := hP
    have hD : va_D (gx_in (mW g md J n v kn pr ar X)) (mW g md J9 (n + 1) v 0 pr ar X) := hD
    exact gc_retwi (u := (J9, n + 1, v, 0, pr, ar, X)) (Wf := fun (u : gMS) => mW g md u.1 u.2.1 u.2.2.1 u.2.2.2.1 u.2.2.2.2.1 u.2.2.2.2.2.1 u.2.2.2.2.2.2) (post := fun r (u : gMS) => ∃ T, sp_any (n, k, a, b, dp, fc) r T ∧ mt_MR u T (v, vk, va, vb, vl)) hx hb hr hlk (⟨_, Or.inl ⟨hc6, rfl, rfl⟩, mt_MR_addT hM hc6 hJ (by decide) (mt_wf_add hw (by decide) (fun _ h9 => absurd rfl h9) (by decide) (by decide))⟩) hP hD hS d_MM_any_22
  · ---- 6F
    refine lv_iconst (v := -1) hx hb d_MM_any_9 (by decide) ?_
    refine lv_goto (tgt := 22) hx hb d_MM_any_10 (by decide) ?_
    exact gc_retwi (u := (J, n, v, kn, pr, ar, X)) (Wf := fun (u : gMS) => mW g md u.1 u.2.1 u.2.2.1 u.2.2.2.1 u.2.2.2.2.1 u.2.2.2.2.2.1 u.2.2.2.2.2.2) (post := fun r (u : gMS) => ∃ T, sp_any (n, k, a, b, dp, fc) r T ∧ mt_MR u T (v, vk, va, vb, vl)) hx hb hr hlk (⟨(n, k, a, b, dp, fc), Or.inr ⟨Nat.not_lt.mpr hc6, rfl, rfl⟩, hM⟩) hP hD hS d_MM_any_22

set_option maxHeartbeats 4000000 in
set_option maxRecDepth 100000 in
theorem c_MM_types {g : gG} {md : Nat → Nat} {J : Nat → Nat → Int32} {n v kn pr ar : Nat} {X : Nat → Int64}  {l : Launch}  :
    gc_RO l y_MM_types (gx_ws y_MM_types b_MM_types 1 (some .int)) 0 0 g [.ref (md 0)] (mW g md J n v kn pr ar X) (fun r => r = nI n) := by
  refine gx_body (by decide) (Nat.le_of_ble_eq_true rfl) ?_
  intro p e s m below meth c ls hAt hB hl
  obtain ⟨hx, hb, hml, hown, hts, hr, hlk, hnm⟩ := hAt
  have hown : s.vm.findClass R_MM = some m.cls := hown
  obtain ⟨hP, hG⟩ := hB
  have hl : lv_has ls 1 [(0, .ref (md 0))] := hl
  refine lv_aload_n hx hb d_MM_types_0 rfl (lv_at hl 0 rfl) ?_
  refine va_get (D := g.1) (own := R_MM) (ref := R_MM) (ci := 5) (v := .int (nI n)) (C := R_MM) (T := F_MM) (N := 16) hx hb hts in_MM hown hG.1 hP 0 rfl rfl 0 (by decide) (hts _ wd_383) (fun _ h9 => h9) rfl d_MM_types_1 ?_
  exact gc_reti (post := fun r => r = nI n) hx hb hr hlk (rfl) d_MM_types_4
