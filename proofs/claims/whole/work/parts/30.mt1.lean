set_option maxHeartbeats 4000000 in
set_option maxRecDepth 100000 in
theorem c_MT_empty {g : gG} {ad so sw : Nat → Nat} {I : Nat → Nat → Int32} {n v : Nat} {us : Nat → Nat} {ct : Nat → Nat → Int64}{k a b : Nat → Nat} {dp : Nat → Nat} {fc : Nat → Bool} {vk va vb vl : Nat → Nat} {x : Int32} {l : Launch} (hC : mt_CR (I, n, v, us, ct) (n, k, a, b, dp, fc) (v, vk, va, vb, vl))  :
    gc_RO l y_MT_empty (gx_ws y_MT_empty b_MT_empty 2 (some .boolean)) 3 70 g [.ref (ad 15), .int x] (cW g ad so sw I n v us ct) (fun r => sp_emp (n, k, a, b, dp, fc) x r) := by
  refine gx_body (by decide) (Nat.le_of_ble_eq_true rfl) ?_
  intro p e s m below meth c ls hAt hB hl
  obtain ⟨hx, hb, hml, hown, hts, hr, hlk, hnm⟩ := hAt
  have hown : s.vm.findClass R_MT = some m.cls := hown
  obtain ⟨hP, hG⟩ := hB
  have hl : lv_has ls 2 [(0, .ref (ad 15)), (1, .int x)] := hl
  have hC0 := hC
  obtain ⟨-, -, hn12, hT, hE, hw, hdp, hR, hv20, hV, hvw⟩ := hC0
  have hn : n ≤ 13 := by omega
  have hRn := hR n (Nat.le_refl n)
  have hun := hRn.1
  refine lv_aload_n hx hb d_MT_empty_0 rfl (lv_at hl 0 rfl) ?_
  refine lv_iload_n hx hb d_MT_empty_1 rfl (lv_at hl 1 rfl) ?_
  refine vp_callSi (va_runV (own := R_MT) (As := [.int x]) (rest := []) ⟨hx, hb, hml, hown, hts⟩ (c_MT_hasType (l := l) (g := g) (ad := ad) (so := so) (sw := sw) (I := I) (n := n) (v := v) (us := us) (ct := ct) (x := x) (by omega)) (cwV 1 hts (gx_goodV wd_252 wd_254 ws_9 wd_1 wd_255) rfl rfl rfl (by decide +kernel) ⟨Nat.le_of_ble_eq_true rfl, Nat.le_of_ble_eq_true rfl⟩) (gc_preV (gc_recv hP hG (ci := 4) rfl (q0 := 15) rfl) hP hG) rfl rfl hl.1 rfl (lv_room (Nat.le_of_ble_eq_true rfl)) d_MT_empty_2 ⟨Nat.le_refl _, Nat.le_refl _⟩).run (fun r hr2 => ?_)
  obtain ⟨z2, hq2, hz2⟩ := hr2
  subst hq2
  refine lv_if_eq (tgt := 26) hx hb d_MT_empty_5 (by decide) (mt_z fun hc5 => ?_) (mt_nz fun hc5 => ?_)
  · ---- 5T
    refine lv_iconst (v := nI 0) hx hb d_MT_empty_26 (by decide) ?_
    exact gc_retz (v := false) (post := fun r => sp_emp (n, k, a, b, dp, fc) x r) hx hb hr hlk (⟨false, rfl, (fun h => by cases h), (fun ⟨i9, h1, _⟩ => absurd (hz2.mpr ⟨i9, h1⟩) (by rw [hc5]; decide))⟩) d_MT_empty_27
  · ---- 5F
    obtain ⟨i, hxi_i⟩ := hz2.mp hc5
    have hlt_i := hxi_i.1
    have hp2_i : 2 ^ i ≤ 2 ^ 20 := Nat.pow_le_pow_right (n := 2) (i := i) (j := 20) (by decide) (by omega)
    have hq2_i : 2 ^ i ≤ 2 ^ 12 := Nat.pow_le_pow_right (n := 2) (i := i) (j := 12) (by decide) (by omega)
    refine lv_aload_n hx hb d_MT_empty_8 rfl (lv_at hl 0 rfl) ?_
    refine va_get (D := g.1) (own := R_MT) (ref := R_MT) (ci := 4) (v := .ref (ad 0)) (C := R_MT) (T := F_MT) (N := 2) hx hb hts in_MT hown hG.1 hP 15 rfl rfl 0 (by decide) (hts _ wd_147) (fun _ h9 => h9) rfl d_MT_empty_9 ?_
    refine lv_iconst (v := nI 1) hx hb d_MT_empty_12 (by decide) ?_
    refine lv_iload_n hx hb d_MT_empty_13 rfl (lv_at hl 1 rfl) ?_
    refine mt_ri (y := nI i) hxi_i.2 ?_
    refine lv_ishl hx hb d_MT_empty_14 ?_
    refine mt_ri (y := nI (2 ^ i)) (mt_shl (by omega)) ?_
    refine lv_iconst (v := nI 0) hx hb d_MT_empty_15 (by decide) ?_
    refine vp_callSi (va_runV (own := R_MT) (As := [.int (nI (2 ^ i)), .int (nI 0)]) (rest := []) ⟨hx, hb, hml, hown, hts⟩ (c_MG_someLiesIn (l := l) (g := g) (ad := ad) (so := so) (sw := sw) (I := I) (n := n) (v := v) (us := us) (ct := ct) (ii := 2 ^ i) (oo := 0) (by omega) (by exact hun) (by omega) (by omega)) (cwV 2 hts (gx_goodV wd_285 wd_286 wd_287 wd_2 wd_288) rfl rfl rfl (by decide +kernel) ⟨Nat.le_of_ble_eq_true rfl, Nat.le_of_ble_eq_true rfl⟩) (gc_preV (gc_recv hP hG (ci := 2) rfl (q0 := 0) rfl) hP hG) rfl rfl hl.1 rfl (lv_room (Nat.le_of_ble_eq_true rfl)) d_MT_empty_16 ⟨Nat.le_refl _, Nat.le_refl _⟩).run (fun r hr16 => ?_)
    obtain ⟨z16, hq16, hz16⟩ := hr16
    subst hq16
    refine lv_if_ne (tgt := 26) hx hb d_MT_empty_19 (by decide) (mt_nz fun hc19 => ?_) (mt_z fun hc19 => ?_)
    · ---- 5F 19T
      refine lv_iconst (v := nI 0) hx hb d_MT_empty_26 (by decide) ?_
      exact gc_retz (v := false) (post := fun r => sp_emp (n, k, a, b, dp, fc) x r) hx hb hr hlk (⟨false, rfl, (fun h => by cases h), (fun ⟨i9, h1, h2⟩ => by obtain ⟨q, e1, e2, -⟩ := hz16.mp hc19; rw [sp_is_inj (by omega) h1 hxi_i] at h2; exact absurd (mt_hasb e2) (h2 q ((hRn.2 q).mp e1)))⟩) d_MT_empty_27
    · ---- 5F 19F
      refine lv_iconst (v := nI 1) hx hb d_MT_empty_22 (by decide) ?_
      refine lv_goto (tgt := 27) hx hb d_MT_empty_23 (by decide) ?_
      exact gc_retz (v := true) (post := fun r => sp_emp (n, k, a, b, dp, fc) x r) hx hb hr hlk (⟨true, rfl, (fun _ => ⟨i, hxi_i, fun q h1 h2 => by have h3 := hz16.mpr ⟨q, (hRn.2 q).mpr h1, mt_bhas h2, Nat.and_zero q⟩; rw [hc19] at h3; cases h3⟩), (fun _ => rfl)⟩) d_MT_empty_27

set_option maxHeartbeats 4000000 in
set_option maxRecDepth 100000 in
theorem c_MT_within {g : gG} {ad so sw : Nat → Nat} {I : Nat → Nat → Int32} {n v : Nat} {us : Nat → Nat} {ct : Nat → Nat → Int64}{k a b : Nat → Nat} {dp : Nat → Nat} {fc : Nat → Bool} {vk va vb vl : Nat → Nat} {x y : Int32} {l : Launch} (hC : mt_CR (I, n, v, us, ct) (n, k, a, b, dp, fc) (v, vk, va, vb, vl))  :
    gc_RO l y_MT_within (gx_ws y_MT_within b_MT_within 3 (some .boolean)) 4 92 g [.ref (ad 15), .int x, .int y] (cW g ad so sw I n v us ct) (fun r => sp_wth (n, k, a, b, dp, fc) x y r) := by
  refine gx_body (by decide) (Nat.le_of_ble_eq_true rfl) ?_
  intro p e s m below meth c ls hAt hB hl
  obtain ⟨hx, hb, hml, hown, hts, hr, hlk, hnm⟩ := hAt
  have hown : s.vm.findClass R_MT = some m.cls := hown
  obtain ⟨hP, hG⟩ := hB
  have hl : lv_has ls 3 [(0, .ref (ad 15)), (1, .int x), (2, .int y)] := hl
  have hC0 := hC
  obtain ⟨-, -, hn12, hT, hE, hw, hdp, hR, hv20, hV, hvw⟩ := hC0
  have hn : n ≤ 13 := by omega
  have hRn := hR n (Nat.le_refl n)
  have hun := hRn.1
  refine lv_aload_n hx hb d_MT_within_0 rfl (lv_at hl 0 rfl) ?_
  refine lv_iload_n hx hb d_MT_within_1 rfl (lv_at hl 1 rfl) ?_
  refine vp_callSi (va_runV (own := R_MT) (As := [.int x]) (rest := []) ⟨hx, hb, hml, hown, hts⟩ (c_MT_hasType (l := l) (g := g) (ad := ad) (so := so) (sw := sw) (I := I) (n := n) (v := v) (us := us) (ct := ct) (x := x) (by omega)) (cwV 1 hts (gx_goodV wd_252 wd_254 ws_9 wd_1 wd_255) rfl rfl rfl (by decide +kernel) ⟨Nat.le_of_ble_eq_true rfl, Nat.le_of_ble_eq_true rfl⟩) (gc_preV (gc_recv hP hG (ci := 4) rfl (q0 := 15) rfl) hP hG) rfl rfl hl.1 rfl (lv_room (Nat.le_of_ble_eq_true rfl)) d_MT_within_2 ⟨Nat.le_refl _, Nat.le_refl _⟩).run (fun r hr2 => ?_)
  obtain ⟨z2, hq2, hz2⟩ := hr2
  subst hq2
  refine lv_if_eq (tgt := 32) hx hb d_MT_within_5 (by decide) (mt_z fun hc5 => ?_) (mt_nz fun hc5 => ?_)
  · ---- 5T
    refine lv_iconst (v := nI 0) hx hb d_MT_within_32 (by decide) ?_
    exact gc_retz (v := false) (post := fun r => sp_wth (n, k, a, b, dp, fc) x y r) hx hb hr hlk (⟨false, rfl, (fun h => by cases h), (fun ⟨i9, _, h1, _⟩ => absurd (hz2.mpr ⟨i9, h1⟩) (by rw [hc5]; decide))⟩) d_MT_within_33
  · ---- 5F
    obtain ⟨i, hxi_i⟩ := hz2.mp hc5
    have hlt_i := hxi_i.1
    have hp2_i : 2 ^ i ≤ 2 ^ 20 := Nat.pow_le_pow_right (n := 2) (i := i) (j := 20) (by decide) (by omega)
    have hq2_i : 2 ^ i ≤ 2 ^ 12 := Nat.pow_le_pow_right (n := 2) (i := i) (j := 12) (by decide) (by omega)
    refine lv_aload_n hx hb d_MT_within_8 rfl (lv_at hl 0 rfl) ?_
    refine lv_iload_n hx hb d_MT_within_9 rfl (lv_at hl 2 rfl) ?_
    refine vp_callSi (va_runV (own := R_MT) (As := [.int y]) (rest := []) ⟨hx, hb, hml, hown, hts⟩ (c_MT_hasType (l := l) (g := g) (ad := ad) (so := so) (sw := sw) (I := I) (n := n) (v := v) (us := us) (ct := ct) (x := y) (by omega)) (cwV 1 hts (gx_goodV wd_252 wd_254 ws_9 wd_1 wd_255) rfl rfl rfl (by decide +kernel) ⟨Nat.le_of_ble_eq_true rfl, Nat.le_of_ble_eq_true rfl⟩) (gc_preV (gc_recv hP hG (ci := 4) rfl (q0 := 15) rfl) hP hG) rfl rfl hl.1 rfl (lv_room (Nat.le_of_ble_eq_true rfl)) d_MT_within_10 ⟨Nat.le_refl _, Nat.le_refl _⟩).run (fun r hr10 => ?_)
    obtain ⟨z10, hq10, hz10⟩ := hr10
    subst hq10
    refine lv_if_eq (tgt := 32) hx hb d_MT_within_13 (by decide) (mt_z fun hc13 => ?_) (mt_nz fun hc13 => ?_)
    · ---- 5F 13T
      refine lv_iconst (v := nI 0) hx hb d_MT_within_32 (by decide) ?_
      exact gc_retz (v := false) (post := fun r => sp_wth (n, k, a, b, dp, fc) x y r) hx hb hr hlk (⟨false, rfl, (fun h => by cases h), (fun ⟨_, j9, _, h1, _⟩ => absurd (hz10.mpr ⟨j9, h1⟩) (by rw [hc13]; decide))⟩) d_MT_within_33
    · ---- 5F 13F
      obtain ⟨j, hxi_j⟩ := hz10.mp hc13
      have hlt_j := hxi_j.1
      have hp2_j : 2 ^ j ≤ 2 ^ 20 := Nat.pow_le_pow_right (n := 2) (i := j) (j := 20) (by decide) (by omega)
      have hq2_j : 2 ^ j ≤ 2 ^ 12 := Nat.pow_le_pow_right (n := 2) (i := j) (j := 12) (by decide) (by omega)
      refine lv_aload_n hx hb d_MT_within_16 rfl (lv_at hl 0 rfl) ?_
      refine va_get (D := g.1) (own := R_MT) (ref := R_MT) (ci := 4) (v := .ref (ad 0)) (C := R_MT) (T := F_MT) (N := 2) hx hb hts in_MT hown hG.1 hP 15 rfl rfl 0 (by decide) (hts _ wd_147) (fun _ h9 => h9) rfl d_MT_within_17 ?_
      refine lv_iload_n hx hb d_MT_within_20 rfl (lv_at hl 1 rfl) ?_
      refine mt_ri (y := nI i) hxi_i.2 ?_
      refine lv_iload_n hx hb d_MT_within_21 rfl (lv_at hl 2 rfl) ?_
      refine mt_ri (y := nI j) hxi_j.2 ?_
      refine vp_callSi (va_runV (own := R_MT) (As := [.int (nI i), .int (nI j)]) (rest := []) ⟨hx, hb, hml, hown, hts⟩ (c_MG_liesIn (l := l) (g := g) (ad := ad) (so := so) (sw := sw) (I := I) (n := n) (v := v) (us := us) (ct := ct) (x := i) (y := j) (by omega) (by exact hun) (by omega) (by omega)) (cwV 2 hts (gx_goodV wd_293 wd_294 wd_295 wd_2 wd_296) rfl rfl rfl (by decide +kernel) ⟨Nat.le_of_ble_eq_true rfl, Nat.le_of_ble_eq_true rfl⟩) (gc_preV (gc_recv hP hG (ci := 2) rfl (q0 := 0) rfl) hP hG) rfl rfl hl.1 rfl (lv_room (Nat.le_of_ble_eq_true rfl)) d_MT_within_22 ⟨Nat.le_refl _, Nat.le_refl _⟩).run (fun r hr22 => ?_)
      obtain ⟨z22, hq22, hz22⟩ := hr22
      subst hq22
      refine lv_if_eq (tgt := 32) hx hb d_MT_within_25 (by decide) (mt_z fun hc25 => ?_) (mt_nz fun hc25 => ?_)
      · ---- 5F 13F 25T
        refine lv_iconst (v := nI 0) hx hb d_MT_within_32 (by decide) ?_
        exact gc_retz (v := false) (post := fun r => sp_wth (n, k, a, b, dp, fc) x y r) hx hb hr hlk (⟨false, rfl, (fun h => by cases h), (fun ⟨i9, j9, h1, h2, h3⟩ => by rw [sp_is_inj (by omega) h1 hxi_i, sp_is_inj (by omega) h2 hxi_j] at h3; have h4 := ((hz22).trans (mt_in_of hRn.2)).mpr h3; rw [hc25] at h4; cases h4)⟩) d_MT_within_33
      · ---- 5F 13F 25F
        refine lv_iconst (v := nI 1) hx hb d_MT_within_28 (by decide) ?_
        refine lv_goto (tgt := 33) hx hb d_MT_within_29 (by decide) ?_
        exact gc_retz (v := true) (post := fun r => sp_wth (n, k, a, b, dp, fc) x y r) hx hb hr hlk (⟨true, rfl, (fun _ => ⟨i, j, hxi_i, hxi_j, ((hz22).trans (mt_in_of hRn.2)).mp hc25⟩), (fun _ => rfl)⟩) d_MT_within_33

set_option maxHeartbeats 4000000 in
set_option maxRecDepth 100000 in
theorem c_MT_compare {g : gG} {ad so sw : Nat → Nat} {I : Nat → Nat → Int32} {n v : Nat} {us : Nat → Nat} {ct : Nat → Nat → Int64}{k a b : Nat → Nat} {dp : Nat → Nat} {fc : Nat → Bool} {vk va vb vl : Nat → Nat} {x y : Int32} {l : Launch} (hC : mt_CR (I, n, v, us, ct) (n, k, a, b, dp, fc) (v, vk, va, vb, vl))  :
    gc_RO l y_MT_compare (gx_ws y_MT_compare b_MT_compare 5 (some .int)) 4 92 g [.ref (ad 15), .int x, .int y] (cW g ad so sw I n v us ct) (fun r => sp_cmp (n, k, a, b, dp, fc) x y r) := by
  refine gx_body (by decide) (Nat.le_of_ble_eq_true rfl) ?_
  intro p e s m below meth c ls hAt hB hl
  obtain ⟨hx, hb, hml, hown, hts, hr, hlk, hnm⟩ := hAt
  have hown : s.vm.findClass R_MT = some m.cls := hown
  obtain ⟨hP, hG⟩ := hB
  have hl : lv_has ls 5 [(0, .ref (ad 15)), (1, .int x), (2, .int y)] := hl
  have hC0 := hC
  obtain ⟨-, -, hn12, hT, hE, hw, hdp, hR, hv20, hV, hvw⟩ := hC0
  have hn : n ≤ 13 := by omega
  have hRn := hR n (Nat.le_refl n)
  have hun := hRn.1
  refine lv_aload_n hx hb d_MT_compare_0 rfl (lv_at hl 0 rfl) ?_
  refine lv_iload_n hx hb d_MT_compare_1 rfl (lv_at hl 1 rfl) ?_
  refine vp_callSi (va_runV (own := R_MT) (As := [.int x]) (rest := []) ⟨hx, hb, hml, hown, hts⟩ (c_MT_hasType (l := l) (g := g) (ad := ad) (so := so) (sw := sw) (I := I) (n := n) (v := v) (us := us) (ct := ct) (x := x) (by omega)) (cwV 1 hts (gx_goodV wd_252 wd_254 ws_9 wd_1 wd_255) rfl rfl rfl (by decide +kernel) ⟨Nat.le_of_ble_eq_true rfl, Nat.le_of_ble_eq_true rfl⟩) (gc_preV (gc_recv hP hG (ci := 4) rfl (q0 := 15) rfl) hP hG) rfl rfl hl.1 rfl (lv_room (Nat.le_of_ble_eq_true rfl)) d_MT_compare_2 ⟨Nat.le_refl _, Nat.le_refl _⟩).run (fun r hr2 => ?_)
  obtain ⟨z2, hq2, hz2⟩ := hr2
  subst hq2
  refine lv_if_eq (tgt := 16) hx hb d_MT_compare_5 (by decide) (mt_z fun hc5 => ?_) (mt_nz fun hc5 => ?_)
  · ---- 5T
    refine lv_iconst (v := -1) hx hb d_MT_compare_16 (by decide) ?_
    exact gc_reti (post := fun r => sp_cmp (n, k, a, b, dp, fc) x y r) hx hb hr hlk (Or.inl ⟨(fun ⟨i9, _, h1, _⟩ => absurd (hz2.mpr ⟨i9, h1⟩) (by rw [hc5]; decide)), rfl⟩) d_MT_compare_17
  · ---- 5F
    obtain ⟨i, hxi_i⟩ := hz2.mp hc5
    have hlt_i := hxi_i.1
    have hp2_i : 2 ^ i ≤ 2 ^ 20 := Nat.pow_le_pow_right (n := 2) (i := i) (j := 20) (by decide) (by omega)
    have hq2_i : 2 ^ i ≤ 2 ^ 12 := Nat.pow_le_pow_right (n := 2) (i := i) (j := 12) (by decide) (by omega)
    refine lv_aload_n hx hb d_MT_compare_8 rfl (lv_at hl 0 rfl) ?_
    refine lv_iload_n hx hb d_MT_compare_9 rfl (lv_at hl 2 rfl) ?_
    refine vp_callSi (va_runV (own := R_MT) (As := [.int y]) (rest := []) ⟨hx, hb, hml, hown, hts⟩ (c_MT_hasType (l := l) (g := g) (ad := ad) (so := so) (sw := sw) (I := I) (n := n) (v := v) (us := us) (ct := ct) (x := y) (by omega)) (cwV 1 hts (gx_goodV wd_252 wd_254 ws_9 wd_1 wd_255) rfl rfl rfl (by decide +kernel) ⟨Nat.le_of_ble_eq_true rfl, Nat.le_of_ble_eq_true rfl⟩) (gc_preV (gc_recv hP hG (ci := 4) rfl (q0 := 15) rfl) hP hG) rfl rfl hl.1 rfl (lv_room (Nat.le_of_ble_eq_true rfl)) d_MT_compare_10 ⟨Nat.le_refl _, Nat.le_refl _⟩).run (fun r hr10 => ?_)
    obtain ⟨z10, hq10, hz10⟩ := hr10
    subst hq10
    refine lv_if_ne (tgt := 18) hx hb d_MT_compare_13 (by decide) (mt_nz fun hc13 => ?_) (mt_z fun hc13 => ?_)
    · ---- 5F 13T
      obtain ⟨j, hxi_j⟩ := hz10.mp hc13
      have hlt_j := hxi_j.1
      have hp2_j : 2 ^ j ≤ 2 ^ 20 := Nat.pow_le_pow_right (n := 2) (i := j) (j := 20) (by decide) (by omega)
      have hq2_j : 2 ^ j ≤ 2 ^ 12 := Nat.pow_le_pow_right (n := 2) (i := j) (j := 12) (by decide) (by omega)
      refine lv_aload_n hx hb d_MT_compare_18 rfl (lv_at hl 0 rfl) ?_
      refine va_get (D := g.1) (own := R_MT) (ref := R_MT) (ci := 4) (v := .ref (ad 0)) (C := R_MT) (T := F_MT) (N := 2) hx hb hts in_MT hown hG.1 hP 15 rfl rfl 0 (by decide) (hts _ wd_147) (fun _ h9 => h9) rfl d_MT_compare_19 ?_
      refine lv_iload_n hx hb d_MT_compare_22 rfl (lv_at hl 1 rfl) ?_
      refine mt_ri (y := nI i) hxi_i.2 ?_
      refine lv_iload_n hx hb d_MT_compare_23 rfl (lv_at hl 2 rfl) ?_
      refine mt_ri (y := nI j) hxi_j.2 ?_
      refine vp_callSi (va_runV (own := R_MT) (As := [.int (nI i), .int (nI j)]) (rest := []) ⟨hx, hb, hml, hown, hts⟩ (c_MG_liesIn (l := l) (g := g) (ad := ad) (so := so) (sw := sw) (I := I) (n := n) (v := v) (us := us) (ct := ct) (x := i) (y := j) (by omega) (by exact hun) (by omega) (by omega)) (cwV 2 hts (gx_goodV wd_293 wd_294 wd_295 wd_2 wd_296) rfl rfl rfl (by decide +kernel) ⟨Nat.le_of_ble_eq_true rfl, Nat.le_of_ble_eq_true rfl⟩) (gc_preV (gc_recv hP hG (ci := 2) rfl (q0 := 0) rfl) hP hG) rfl rfl hl.1 rfl (lv_room (Nat.le_of_ble_eq_true rfl)) d_MT_compare_24 ⟨Nat.le_refl _, Nat.le_refl _⟩).run (fun r hr24 => ?_)
      obtain ⟨z24, hq24, hz24⟩ := hr24
      subst hq24
      refine lv_istore_n (lv' := [(3, .int (mt_b z24)), (0, .ref (ad 15)), (1, .int x), (2, .int y)]) hx hb d_MT_compare_27 rfl hl (by decide) rfl (fun ls hl => ?_)
      refine lv_aload_n hx hb d_MT_compare_28 rfl (lv_at hl 1 rfl) ?_
      refine va_get (D := g.1) (own := R_MT) (ref := R_MT) (ci := 4) (v := .ref (ad 0)) (C := R_MT) (T := F_MT) (N := 2) hx hb hts in_MT hown hG.1 hP 15 rfl rfl 0 (by decide) (hts _ wd_147) (fun _ h9 => h9) rfl d_MT_compare_29 ?_
      refine lv_iload_n hx hb d_MT_compare_32 rfl (lv_at hl 3 rfl) ?_
      refine mt_ri (y := nI j) hxi_j.2 ?_
      refine lv_iload_n hx hb d_MT_compare_33 rfl (lv_at hl 2 rfl) ?_
      refine mt_ri (y := nI i) hxi_i.2 ?_
      refine vp_callSi (va_runV (own := R_MT) (As := [.int (nI j), .int (nI i)]) (rest := []) ⟨hx, hb, hml, hown, hts⟩ (c_MG_liesIn (l := l) (g := g) (ad := ad) (so := so) (sw := sw) (I := I) (n := n) (v := v) (us := us) (ct := ct) (x := j) (y := i) (by omega) (by exact hun) (by omega) (by omega)) (cwV 2 hts (gx_goodV wd_293 wd_294 wd_295 wd_2 wd_296) rfl rfl rfl (by decide +kernel) ⟨Nat.le_of_ble_eq_true rfl, Nat.le_of_ble_eq_true rfl⟩) (gc_preV (gc_recv hP hG (ci := 2) rfl (q0 := 0) rfl) hP hG) rfl rfl hl.1 rfl (lv_room (Nat.le_of_ble_eq_true rfl)) d_MT_compare_34 ⟨Nat.le_refl _, Nat.le_refl _⟩).run (fun r hr34 => ?_)
      obtain ⟨z34, hq34, hz34⟩ := hr34
      subst hq34
      refine lv_istore (lv' := [(4, .int (mt_b z34)), (3, .int (mt_b z24)), (0, .ref (ad 15)), (1, .int x), (2, .int y)]) hx hb d_MT_compare_37 hl (by decide) rfl (fun ls hl => ?_)
      refine lv_iload_n hx hb d_MT_compare_39 rfl (lv_at hl 1 rfl) ?_
      refine lv_if_eq (tgt := 54) hx hb d_MT_compare_40 (by decide) (mt_z fun hc40 => ?_) (mt_nz fun hc40 => ?_)
      · ---- 5F 13T 40T
        refine lv_iload hx hb d_MT_compare_54 (lv_at hl 0 rfl) ?_
        refine lv_if_eq (tgt := 61) hx hb d_MT_compare_56 (by decide) (mt_z fun hc56 => ?_) (mt_nz fun hc56 => ?_)
        · ---- 5F 13T 40T 56T
          refine lv_aload_n hx hb d_MT_compare_61 rfl (lv_at hl 2 rfl) ?_
          refine va_get (D := g.1) (own := R_MT) (ref := R_MT) (ci := 4) (v := .ref (ad 0)) (C := R_MT) (T := F_MT) (N := 2) hx hb hts in_MT hown hG.1 hP 15 rfl rfl 0 (by decide) (hts _ wd_147) (fun _ h9 => h9) rfl d_MT_compare_62 ?_
          refine lv_iconst (v := nI 1) hx hb d_MT_compare_65 (by decide) ?_
          refine lv_iload_n hx hb d_MT_compare_66 rfl (lv_at hl 3 rfl) ?_
          refine mt_ri (y := nI i) hxi_i.2 ?_
          refine lv_ishl hx hb d_MT_compare_67 ?_
          refine mt_ri (y := nI (2 ^ i)) (mt_shl (by omega)) ?_
          refine lv_iconst (v := nI 1) hx hb d_MT_compare_68 (by decide) ?_
          refine lv_iload_n hx hb d_MT_compare_69 rfl (lv_at hl 4 rfl) ?_
          refine mt_ri (y := nI j) hxi_j.2 ?_
          refine lv_ishl hx hb d_MT_compare_70 ?_
          refine mt_ri (y := nI (2 ^ j)) (mt_shl (by omega)) ?_
          refine lv_ior hx hb d_MT_compare_71 ?_
          refine mt_ri (y := nI ((2 ^ i) ||| (2 ^ j))) (mt_or _ _) ?_
          refine lv_iconst (v := nI 0) hx hb d_MT_compare_72 (by decide) ?_
          refine vp_callSi (va_runV (own := R_MT) (As := [.int (nI ((2 ^ i) ||| (2 ^ j))), .int (nI 0)]) (rest := []) ⟨hx, hb, hml, hown, hts⟩ (c_MG_someLiesIn (l := l) (g := g) (ad := ad) (so := so) (sw := sw) (I := I) (n := n) (v := v) (us := us) (ct := ct) (ii := (2 ^ i) ||| (2 ^ j)) (oo := 0) (by omega) (by exact hun) (by exact Nat.or_lt_two_pow (n := 13) (by omega) (by omega)) (by omega)) (cwV 2 hts (gx_goodV wd_285 wd_286 wd_287 wd_2 wd_288) rfl rfl rfl (by decide +kernel) ⟨Nat.le_of_ble_eq_true rfl, Nat.le_of_ble_eq_true rfl⟩) (gc_preV (gc_recv hP hG (ci := 2) rfl (q0 := 0) rfl) hP hG) rfl rfl hl.1 rfl (lv_room (Nat.le_of_ble_eq_true rfl)) d_MT_compare_73 ⟨Nat.le_refl _, Nat.le_refl _⟩).run (fun r hr73 => ?_)
          obtain ⟨z73, hq73, hz73⟩ := hr73
          subst hq73
          refine lv_if_eq (tgt := 83) hx hb d_MT_compare_76 (by decide) (mt_z fun hc76 => ?_) (mt_nz fun hc76 => ?_)
          · ---- 5F 13T 40T 56T 76T
            refine lv_iconst (v := nI 4) hx hb d_MT_compare_83 (by decide) ?_
            exact gc_reti (post := fun r => sp_cmp (n, k, a, b, dp, fc) x y r) hx hb hr hlk (Or.inr ⟨i, j, hxi_i, hxi_j, Or.inr (Or.inr (Or.inr (Or.inr ⟨(fun h9 => by have h8 := ((hz24).trans (mt_in_of hRn.2)).mpr h9; rw [hc40] at h8; cases h8), (fun h9 => by have h8 := ((hz34).trans (mt_in_of hRn.2)).mpr h9; rw [hc56] at h8; cases h8), (fun h9 => by have h8 := ((hz73).trans (mt_both_of hRn.2)).mpr h9; rw [hc76] at h8; cases h8), rfl⟩)))⟩) d_MT_compare_84
          · ---- 5F 13T 40T 56T 76F
            refine lv_iconst (v := nI 0) hx hb d_MT_compare_79 (by decide) ?_
            refine lv_goto (tgt := 84) hx hb d_MT_compare_80 (by decide) ?_
            exact gc_reti (post := fun r => sp_cmp (n, k, a, b, dp, fc) x y r) hx hb hr hlk (Or.inr ⟨i, j, hxi_i, hxi_j, Or.inr (Or.inr (Or.inr (Or.inl ⟨(fun h9 => by have h8 := ((hz24).trans (mt_in_of hRn.2)).mpr h9; rw [hc40] at h8; cases h8), (fun h9 => by have h8 := ((hz34).trans (mt_in_of hRn.2)).mpr h9; rw [hc56] at h8; cases h8), ((hz73).trans (mt_both_of hRn.2)).mp hc76, rfl⟩)))⟩) d_MT_compare_84
        · ---- 5F 13T 40T 56F
          refine lv_iconst (v := nI 2) hx hb d_MT_compare_59 (by decide) ?_
          exact gc_reti (post := fun r => sp_cmp (n, k, a, b, dp, fc) x y r) hx hb hr hlk (Or.inr ⟨i, j, hxi_i, hxi_j, Or.inr (Or.inr (Or.inl ⟨(fun h9 => by have h8 := ((hz24).trans (mt_in_of hRn.2)).mpr h9; rw [hc40] at h8; cases h8), ((hz34).trans (mt_in_of hRn.2)).mp hc56, rfl⟩))⟩) d_MT_compare_60
      · ---- 5F 13T 40F
        refine lv_iload hx hb d_MT_compare_43 (lv_at hl 0 rfl) ?_
        refine lv_if_eq (tgt := 52) hx hb d_MT_compare_45 (by decide) (mt_z fun hc45 => ?_) (mt_nz fun hc45 => ?_)
        · ---- 5F 13T 40F 45T
          refine lv_iconst (v := nI 1) hx hb d_MT_compare_52 (by decide) ?_
          exact gc_reti (post := fun r => sp_cmp (n, k, a, b, dp, fc) x y r) hx hb hr hlk (Or.inr ⟨i, j, hxi_i, hxi_j, Or.inr (Or.inl ⟨((hz24).trans (mt_in_of hRn.2)).mp hc40, (fun h9 => by have h8 := ((hz34).trans (mt_in_of hRn.2)).mpr h9; rw [hc45] at h8; cases h8), rfl⟩)⟩) d_MT_compare_53
        · ---- 5F 13T 40F 45F
          refine lv_iconst (v := nI 3) hx hb d_MT_compare_48 (by decide) ?_
          refine lv_goto (tgt := 53) hx hb d_MT_compare_49 (by decide) ?_
          exact gc_reti (post := fun r => sp_cmp (n, k, a, b, dp, fc) x y r) hx hb hr hlk (Or.inr ⟨i, j, hxi_i, hxi_j, Or.inl ⟨((hz24).trans (mt_in_of hRn.2)).mp hc40, ((hz34).trans (mt_in_of hRn.2)).mp hc45, rfl⟩⟩) d_MT_compare_53
    · ---- 5F 13F
      refine lv_iconst (v := -1) hx hb d_MT_compare_16 (by decide) ?_
      exact gc_reti (post := fun r => sp_cmp (n, k, a, b, dp, fc) x y r) hx hb hr hlk (Or.inl ⟨(fun ⟨_, j9, _, h1⟩ => absurd (hz10.mpr ⟨j9, h1⟩) (by rw [hc13]; decide)), rfl⟩) d_MT_compare_17
