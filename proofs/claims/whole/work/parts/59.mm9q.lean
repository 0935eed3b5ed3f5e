set_option maxHeartbeats 4000000 in
set_option maxRecDepth 100000 in
theorem c_MM_empty {g : gG} {md : Nat → Nat} {J : Nat → Nat → Int32} {n v kn pr ar : Nat} {X : Nat → Int64} {k a b : Nat → Nat} {dp : Nat → Nat} {fc : Nat → Bool} {vk va vb vl : Nat → Nat} {x : Int32} {l : Launch} (hM : mt_MR (J, n, v, kn, pr, ar, X) (n, k, a, b, dp, fc) (v, vk, va, vb, vl))  :
    gc_RW (S := gMS) l y_MM_empty (gx_ws y_MM_empty b_MM_empty 2 (some .boolean)) 5 112 g [.ref (md 0), .int x] (mW g md J n v kn pr ar X) (fun (u : gMS) => mW g md u.1 u.2.1 u.2.2.1 u.2.2.2.1 u.2.2.2.2.1 u.2.2.2.2.2.1 u.2.2.2.2.2.2) (fun r (u : gMS) => sp_emp (n, k, a, b, dp, fc) x r ∧ mt_MR u (n, k, a, b, dp, fc) (v, vk, va, vb, vl)) := by
  refine gx_body (by decide) (Nat.le_of_ble_eq_true rfl) ?_
  intro p e s m below meth c ls hAt hB hl
  obtain ⟨hx, hb, hml, hown, hts, hr, hlk, hnm⟩ := hAt
  have hown : s.vm.findClass R_MM = some m.cls := hown
  obtain ⟨⟨hP, hG⟩, hD0⟩ := hB
  have hD := gx_D.self hD0
  have hS : va_S (gx_in (mW g md J n v kn pr ar X)) s.heap s.heap [] := va_S.rf
  have hl : lv_has ls 2 [(0, .ref (md 0)), (1, .int x)] := hl
  have hM0 := hM
  obtain ⟨-, -, hn12, hT, hE, hw, hdp, hv20, hV, hvw, hkn, hK⟩ := hM0
  refine lv_aload_n hx hb d_MM_empty_0 rfl (lv_at hl 0 rfl) ?_
  refine lv_iload_n hx hb d_MM_empty_1 rfl (lv_at hl 1 rfl) ?_
  refine vp_callSi (va_runV (own := R_MM) (As := [.int x]) (rest := []) ⟨hx, hb, hml, hown, hts⟩ (c_MM_isType (l := l) (g := g) (md := md) (J := J) (n := n) (v := v) (kn := kn) (pr := pr) (ar := ar) (X := X) (x := x) (by omega)) (cwV 1 hts (gx_goodV wd_448 wd_450 ws_14 wd_7 wd_451) rfl rfl rfl (by decide +kernel) ⟨Nat.le_of_ble_eq_true rfl, Nat.le_of_ble_eq_true rfl⟩) (gc_preV (gc_recv hP hG (ci := 5) rfl (q0 := 0) rfl) hP hG) rfl rfl hl.1 rfl (lv_room (Nat.le_of_ble_eq_true rfl)) d_MM_empty_2 ⟨Nat.le_refl _, Nat.le_refl _⟩).run (fun r hr2 => ?_)
  obtain ⟨z2, hq2, hz2⟩ := hr2
  subst hq2
  refine lv_if_ne (tgt := 10) hx hb d_MM_empty_5 (by decide) (mt_nz fun hc5 => ?_) (mt_z fun hc5 => ?_)
  · ---- 5T
    obtain ⟨i, hxi_i⟩ := hz2.mp hc5
    have hlt_i := hxi_i.1
    have hp2_i : 2 ^ i ≤ 2 ^ 20 := Nat.pow_le_pow_right (n := 2) (i := i) (j := 20) (by decide) (by omega)
    have hq2_i : 2 ^ i ≤ 2 ^ 12 := Nat.pow_le_pow_right (n := 2) (i := i) (j := 12) (by decide) (by omega)
    refine lv_aload_n hx hb d_MM_empty_10 rfl (lv_at hl 0 rfl) ?_
    refine lv_aload_n hx hb d_MM_empty_11 rfl (lv_at hl 0 rfl) ?_
    refine va_get (D := g.1) (own := R_MM) (ref := R_MM) (ci := 5) (v := .int (nI n)) (C := R_MM) (T := F_MM) (N := 16) hx hb hts in_MM hown hG.1 hP 0 rfl rfl 0 (by decide) (hts _ wd_383) (fun _ h9 => h9) rfl d_MM_empty_12 ?_
    refine gc_cwv (va_runV (own := R_MM) (As := [.int (nI n)]) (rest := []) ⟨hx, hb, hml, hown, hts⟩ (c_MM_work (l := l) (g := g) (md := md) (J := J) (n := n) (v := v) (kn := kn) (pr := pr) (ar := ar) (X := X) (k := k) (a := a) (b := b) (nn := n) hT (by omega) hw (by omega) hK) (cwV 1 hts (gx_goodV wd_484 wd_486 ws_16 wd_7 wd_487) rfl rfl rfl (by decide +kernel) ⟨Nat.le_of_ble_eq_true rfl, Nat.le_of_ble_eq_true rfl⟩) (gc_preVW (gc_recv hP hG (ci := 5) rfl (q0 := 0) rfl) hP hG hD) rfl rfl hl.1 rfl (lv_room (Nat.le_of_ble_eq_true rfl)) d_MM_empty_15 ⟨Nat.le_refl _, Nat.le_refl _⟩) hD hS (fun u15 H locs hu15 hP hD hS => ?_)
    obtain ⟨P15, kn15, pr15, ar15, X15⟩ := u15
    obtain ⟨hkn15, hK15⟩ := hu15
    dsimp only at hkn15 hK15 hP hD
    rw [hkn15] at hP hD
    have hP : va_P g.1 gx_cl (mW g md (va_up J 9 P15) n v n pr15 ar15 X15) H := hP
    have hD : va_D (gx_in (mW g md J n v kn pr ar X)) (mW g md (va_up J 9 P15) n v n pr15 ar15 X15) := hD
    refine lv_aload_n hx hb d_MM_empty_18 rfl (lv_at hl 0 rfl) ?_
    refine lv_iload_n hx hb d_MM_empty_19 rfl (lv_at hl 1 rfl) ?_
    refine mt_ri (y := nI i) hxi_i.2 ?_
    refine lv_iconst (v := -1) hx hb d_MM_empty_20 (by decide) ?_
    refine lv_iconst (v := nI 1) hx hb d_MM_empty_21 (by decide) ?_
    refine vp_callSi (va_runV (own := R_MM) (As := [.int (nI i), .int (-1), .int (nI 1)]) (rest := []) ⟨hx, hb, hml, hown, hts⟩ (c_MM_meetsE (l := l) (g := g) (md := md) (J := va_up J 9 P15) (n := n) (v := v) (kn := n) (pr := pr15) (ar := ar15) (X := X15) (i := i) (by omega)) (cwV 3 hts (gx_goodV wd_532 wd_534 ws_28 wd_7 wd_535) rfl rfl rfl (by decide +kernel) ⟨Nat.le_of_ble_eq_true rfl, Nat.le_of_ble_eq_true rfl⟩) (gc_preV (gc_recv hP hG (ci := 5) rfl (q0 := 0) rfl) hP hG) rfl rfl hl.1 rfl (lv_room (Nat.le_of_ble_eq_true rfl)) d_MM_empty_22 ⟨Nat.le_refl _, Nat.le_refl _⟩).run (fun r hr22 => ?_)
    obtain ⟨z22, hq22, hz22⟩ := hr22
    subst hq22
    refine lv_if_ne (tgt := 32) hx hb d_MM_empty_25 (by decide) (mt_nz fun hc25 => ?_) (mt_z fun hc25 => ?_)
    · ---- 5T 25T
      refine lv_iconst (v := nI 0) hx hb d_MM_empty_32 (by decide) ?_
      exact gc_retwz (u := (va_up J 9 P15, n, v, n, pr15, ar15, X15)) (v := false) (Wf := fun (u : gMS) => mW g md u.1 u.2.1 u.2.2.1 u.2.2.2.1 u.2.2.2.2.1 u.2.2.2.2.2.1 u.2.2.2.2.2.2) (post := fun r (u : gMS) => sp_emp (n, k, a, b, dp, fc) x r ∧ mt_MR u (n, k, a, b, dp, fc) (v, vk, va, vb, vl)) hx hb hr hlk (⟨⟨false, rfl, (fun h => by cases h), (fun ⟨i9, h1, h2⟩ => by have e1 := sp_is_inj (show n ≤ 100 by omega) h1 hxi_i; subst e1; exact absurd h2 (fun h3 => (mt_emp_of hK15.2 hn12).mpr h3 (hz22.mp hc25)))⟩, mt_MR_wk hM hK15⟩) hP hD hS d_MM_empty_33
    · ---- 5T 25F
      refine lv_iconst (v := nI 1) hx hb d_MM_empty_28 (by decide) ?_
      refine lv_goto (tgt := 33) hx hb d_MM_empty_29 (by decide) ?_
      exact gc_retwz (u := (va_up J 9 P15, n, v, n, pr15, ar15, X15)) (v := true) (Wf := fun (u : gMS) => mW g md u.1 u.2.1 u.2.2.1 u.2.2.2.1 u.2.2.2.2.1 u.2.2.2.2.2.1 u.2.2.2.2.2.2) (post := fun r (u : gMS) => sp_emp (n, k, a, b, dp, fc) x r ∧ mt_MR u (n, k, a, b, dp, fc) (v, vk, va, vb, vl)) hx hb hr hlk (⟨⟨true, rfl, (fun _ => ⟨i, hxi_i, (mt_emp_of hK15.2 hn12).mp (fun h9 => by have h8 := hz22.mpr h9; rw [hc25] at h8; cases h8)⟩), (fun _ => rfl)⟩, mt_MR_wk hM hK15⟩) hP hD hS d_MM_empty_33
  · ---- 5F
    refine lv_iconst (v := nI 0) hx hb d_MM_empty_8 (by decide) ?_
    exact gc_retwz (u := (J, n, v, kn, pr, ar, X)) (v := false) (Wf := fun (u : gMS) => mW g md u.1 u.2.1 u.2.2.1 u.2.2.2.1 u.2.2.2.2.1 u.2.2.2.2.2.1 u.2.2.2.2.2.2) (post := fun r (u : gMS) => sp_emp (n, k, a, b, dp, fc) x r ∧ mt_MR u (n, k, a, b, dp, fc) (v, vk, va, vb, vl)) hx hb hr hlk (⟨⟨false, rfl, (fun h => by cases h), (fun ⟨i9, h1, _⟩ => absurd (hz2.mpr ⟨i9, h1⟩) (by rw [hc5]; decide))⟩, hM⟩) hP hD hS d_MM_empty_9

set_option maxHeartbeats 4000000 in
set_option maxRecDepth 100000 in
theorem c_MM_within {g : gG} {md : Nat → Nat} {J : Nat → Nat → Int32} {n v kn pr ar : Nat} {X : Nat → Int64} {k a b : Nat → Nat} {dp : Nat → Nat} {fc : Nat → Bool} {vk va vb vl : Nat → Nat} {x y : Int32} {l : Launch} (hM : mt_MR (J, n, v, kn, pr, ar, X) (n, k, a, b, dp, fc) (v, vk, va, vb, vl))  :
    gc_RW (S := gMS) l y_MM_within (gx_ws y_MM_within b_MM_within 3 (some .boolean)) 5 112 g [.ref (md 0), .int x, .int y] (mW g md J n v kn pr ar X) (fun (u : gMS) => mW g md u.1 u.2.1 u.2.2.1 u.2.2.2.1 u.2.2.2.2.1 u.2.2.2.2.2.1 u.2.2.2.2.2.2) (fun r (u : gMS) => sp_wth (n, k, a, b, dp, fc) x y r ∧ mt_MR u (n, k, a, b, dp, fc) (v, vk, va, vb, vl)) := by
  refine gx_body (by decide) (Nat.le_of_ble_eq_true rfl) ?_
  intro p e s m below meth c ls hAt hB hl
  obtain ⟨hx, hb, hml, hown, hts, hr, hlk, hnm⟩ := hAt
  have hown : s.vm.findClass R_MM = some m.cls := hown
  obtain ⟨⟨hP, hG⟩, hD0⟩ := hB
  have hD := gx_D.self hD0
  have hS : va_S (gx_in (mW g md J n v kn pr ar X)) s.heap s.heap [] := va_S.rf
  have hl : lv_has ls 3 [(0, .ref (md 0)), (1, .int x), (2, .int y)] := hl
  have hM0 := hM
  obtain ⟨-, -, hn12, hT, hE, hw, hdp, hv20, hV, hvw, hkn, hK⟩ := hM0
  refine lv_aload_n hx hb d_MM_within_0 rfl (lv_at hl 0 rfl) ?_
  refine lv_iload_n hx hb d_MM_within_1 rfl (lv_at hl 1 rfl) ?_
  refine vp_callSi (va_runV (own := R_MM) (As := [.int x]) (rest := []) ⟨hx, hb, hml, hown, hts⟩ (c_MM_isType (l := l) (g := g) (md := md) (J := J) (n := n) (v := v) (kn := kn) (pr := pr) (ar := ar) (X := X) (x := x) (by omega)) (cwV 1 hts (gx_goodV wd_448 wd_450 ws_14 wd_7 wd_451) rfl rfl rfl (by decide +kernel) ⟨Nat.le_of_ble_eq_true rfl, Nat.le_of_ble_eq_true rfl⟩) (gc_preV (gc_recv hP hG (ci := 5) rfl (q0 := 0) rfl) hP hG) rfl rfl hl.1 rfl (lv_room (Nat.le_of_ble_eq_true rfl)) d_MM_within_2 ⟨Nat.le_refl _, Nat.le_refl _⟩).run (fun r hr2 => ?_)
  obtain ⟨z2, hq2, hz2⟩ := hr2
  subst hq2
  refine lv_if_eq (tgt := 16) hx hb d_MM_within_5 (by decide) (mt_z fun hc5 => ?_) (mt_nz fun hc5 => ?_)
  · ---- 5T
    refine lv_iconst (v := nI 0) hx hb d_MM_within_16 (by decide) ?_
    exact gc_retwz (u := (J, n, v, kn, pr, ar, X)) (v := false) (Wf := fun (u : gMS) => mW g md u.1 u.2.1 u.2.2.1 u.2.2.2.1 u.2.2.2.2.1 u.2.2.2.2.2.1 u.2.2.2.2.2.2) (post := fun r (u : gMS) => sp_wth (n, k, a, b, dp, fc) x y r ∧ mt_MR u (n, k, a, b, dp, fc) (v, vk, va, vb, vl)) hx hb hr hlk (⟨⟨false, rfl, (fun h => by cases h), (fun ⟨i9, _, h1, _⟩ => absurd (hz2.mpr ⟨i9, h1⟩) (by rw [hc5]; decide))⟩, hM⟩) hP hD hS d_MM_within_17
  · ---- 5F
    obtain ⟨i, hxi_i⟩ := hz2.mp hc5
    have hlt_i := hxi_i.1
    have hp2_i : 2 ^ i ≤ 2 ^ 20 := Nat.pow_le_pow_right (n := 2) (i := i) (j := 20) (by decide) (by omega)
    have hq2_i : 2 ^ i ≤ 2 ^ 12 := Nat.pow_le_pow_right (n := 2) (i := i) (j := 12) (by decide) (by omega)
    refine lv_aload_n hx hb d_MM_within_8 rfl (lv_at hl 0 rfl) ?_
    refine lv_iload_n hx hb d_MM_within_9 rfl (lv_at hl 2 rfl) ?_
    refine vp_callSi (va_runV (own := R_MM) (As := [.int y]) (rest := []) ⟨hx, hb, hml, hown, hts⟩ (c_MM_isType (l := l) (g := g) (md := md) (J := J) (n := n) (v := v) (kn := kn) (pr := pr) (ar := ar) (X := X) (x := y) (by omega)) (cwV 1 hts (gx_goodV wd_448 wd_450 ws_14 wd_7 wd_451) rfl rfl rfl (by decide +kernel) ⟨Nat.le_of_ble_eq_true rfl, Nat.le_of_ble_eq_true rfl⟩) (gc_preV (gc_recv hP hG (ci := 5) rfl (q0 := 0) rfl) hP hG) rfl rfl hl.1 rfl (lv_room (Nat.le_of_ble_eq_true rfl)) d_MM_within_10 ⟨Nat.le_refl _, Nat.le_refl _⟩).run (fun r hr10 => ?_)
    obtain ⟨z10, hq10, hz10⟩ := hr10
    subst hq10
    refine lv_if_ne (tgt := 18) hx hb d_MM_within_13 (by decide) (mt_nz fun hc13 => ?_) (mt_z fun hc13 => ?_)
    · ---- 5F 13T
      obtain ⟨j, hxi_j⟩ := hz10.mp hc13
      have hlt_j := hxi_j.1
      have hp2_j : 2 ^ j ≤ 2 ^ 20 := Nat.pow_le_pow_right (n := 2) (i := j) (j := 20) (by decide) (by omega)
      have hq2_j : 2 ^ j ≤ 2 ^ 12 := Nat.pow_le_pow_right (n := 2) (i := j) (j := 12) (by decide) (by omega)
      refine lv_aload_n hx hb d_MM_within_18 rfl (lv_at hl 0 rfl) ?_
      refine lv_aload_n hx hb d_MM_within_19 rfl (lv_at hl 0 rfl) ?_
      refine va_get (D := g.1) (own := R_MM) (ref := R_MM) (ci := 5) (v := .int (nI n)) (C := R_MM) (T := F_MM) (N := 16) hx hb hts in_MM hown hG.1 hP 0 rfl rfl 0 (by decide) (hts _ wd_383) (fun _ h9 => h9) rfl d_MM_within_20 ?_
      refine gc_cwv (va_runV (own := R_MM) (As := [.int (nI n)]) (rest := []) ⟨hx, hb, hml, hown, hts⟩ (c_MM_work (l := l) (g := g) (md := md) (J := J) (n := n) (v := v) (kn := kn) (pr := pr) (ar := ar) (X := X) (k := k) (a := a) (b := b) (nn := n) hT (by omega) hw (by omega) hK) (cwV 1 hts (gx_goodV wd_484 wd_486 ws_16 wd_7 wd_487) rfl rfl rfl (by decide +kernel) ⟨Nat.le_of_ble_eq_true rfl, Nat.le_of_ble_eq_true rfl⟩) (gc_preVW (gc_recv hP hG (ci := 5) rfl (q0 := 0) rfl) hP hG hD) rfl rfl hl.1 rfl (lv_room (Nat.le_of_ble_eq_true rfl)) d_MM_within_23 ⟨Nat.le_refl _, Nat.le_refl _⟩) hD hS (fun u23 H locs hu23 hP hD hS => ?_)
      obtain ⟨P23, kn23, pr23, ar23, X23⟩ := u23
      obtain ⟨hkn23, hK23⟩ := hu23
      dsimp only at hkn23 hK23 hP hD
      rw [hkn23] at hP hD
      have hP : va_P g.1 gx_cl (mW g md (va_up J 9 P23) n v n pr23 ar23 X23) H := hP
      have hD : va_D (gx_in (mW g md J n v kn pr ar X)) (mW g md (va_up J 9 P23) n v n pr23 ar23 X23) := hD
      refine lv_aload_n hx hb d_MM_within_26 rfl (lv_at hl 0 rfl) ?_
      refine lv_iload_n hx hb d_MM_within_27 rfl (lv_at hl 1 rfl) ?_
      refine mt_ri (y := nI i) hxi_i.2 ?_
      refine lv_iload_n hx hb d_MM_within_28 rfl (lv_at hl 2 rfl) ?_
      refine mt_ri (y := nI j) hxi_j.2 ?_
      refine vp_callSi (va_runV (own := R_MM) (As := [.int (nI i), .int (nI j)]) (rest := []) ⟨hx, hb, hml, hown, hts⟩ (c_MM_lies (l := l) (g := g) (md := md) (J := va_up J 9 P23) (n := n) (v := v) (kn := n) (pr := pr23) (ar := ar23) (X := X23) (i := i) (j := j) (by omega) (by omega)) (cwV 2 hts (gx_goodV wd_540 wd_542 ws_29 wd_7 wd_543) rfl rfl rfl (by decide +kernel) ⟨Nat.le_of_ble_eq_true rfl, Nat.le_of_ble_eq_true rfl⟩) (gc_preV (gc_recv hP hG (ci := 5) rfl (q0 := 0) rfl) hP hG) rfl rfl hl.1 rfl (lv_room (Nat.le_of_ble_eq_true rfl)) d_MM_within_29 ⟨Nat.le_refl _, Nat.le_refl _⟩).run (fun r hr29 => ?_)
      obtain ⟨z29, hq29, hz29⟩ := hr29
      subst hq29
      exact gc_retwz (u := (va_up J 9 P23, n, v, n, pr23, ar23, X23)) (v := z29) (Wf := fun (u : gMS) => mW g md u.1 u.2.1 u.2.2.1 u.2.2.2.1 u.2.2.2.2.1 u.2.2.2.2.2.1 u.2.2.2.2.2.2) (post := fun r (u : gMS) => sp_wth (n, k, a, b, dp, fc) x y r ∧ mt_MR u (n, k, a, b, dp, fc) (v, vk, va, vb, vl)) hx hb hr hlk (⟨⟨z29, rfl, (fun h9 => ⟨i, j, hxi_i, hxi_j, (hz29.trans (mt_lies_of hK23.2 hn12)).mp h9⟩), (fun ⟨i9, j9, h1, h2, h3⟩ => by have e1 := sp_is_inj (show n ≤ 100 by omega) h1 hxi_i; have e2 := sp_is_inj (show n ≤ 100 by omega) h2 hxi_j; subst e1; subst e2; exact (hz29.trans (mt_lies_of hK23.2 hn12)).mpr h3)⟩, mt_MR_wk hM hK23⟩) hP hD hS d_MM_within_32
    · ---- 5F 13F
      refine lv_iconst (v := nI 0) hx hb d_MM_within_16 (by decide) ?_
      exact gc_retwz (u := (J, n, v, kn, pr, ar, X)) (v := false) (Wf := fun (u : gMS) => mW g md u.1 u.2.1 u.2.2.1 u.2.2.2.1 u.2.2.2.2.1 u.2.2.2.2.2.1 u.2.2.2.2.2.2) (post := fun r (u : gMS) => sp_wth (n, k, a, b, dp, fc) x y r ∧ mt_MR u (n, k, a, b, dp, fc) (v, vk, va, vb, vl)) hx hb hr hlk (⟨⟨false, rfl, (fun h => by cases h), (fun ⟨_, j9, _, h1, _⟩ => absurd (hz10.mpr ⟨j9, h1⟩) (by rw [hc13]; decide))⟩, hM⟩) hP hD hS d_MM_within_17

set_option maxHeartbeats 4000000 in
set_option maxRecDepth 100000 in
theorem c_MM_compare {g : gG} {md : Nat → Nat} {J : Nat → Nat → Int32} {n v kn pr ar : Nat} {X : Nat → Int64} {k a b : Nat → Nat} {dp : Nat → Nat} {fc : Nat → Bool} {vk va vb vl : Nat → Nat} {x y : Int32} {l : Launch} (hM : mt_MR (J, n, v, kn, pr, ar, X) (n, k, a, b, dp, fc) (v, vk, va, vb, vl))  :
    gc_RW (S := gMS) l y_MM_compare (gx_ws y_MM_compare b_MM_compare 5 (some .int)) 5 112 g [.ref (md 0), .int x, .int y] (mW g md J n v kn pr ar X) (fun (u : gMS) => mW g md u.1 u.2.1 u.2.2.1 u.2.2.2.1 u.2.2.2.2.1 u.2.2.2.2.2.1 u.2.2.2.2.2.2) (fun r (u : gMS) => sp_cmp (n, k, a, b, dp, fc) x y r ∧ mt_MR u (n, k, a, b, dp, fc) (v, vk, va, vb, vl)) := by
  refine gx_body (by decide) (Nat.le_of_ble_eq_true rfl) ?_
  intro p e s m below meth c ls hAt hB hl
  obtain ⟨hx, hb, hml, hown, hts, hr, hlk, hnm⟩ := hAt
  have hown : s.vm.findClass R_MM = some m.cls := hown
  obtain ⟨⟨hP, hG⟩, hD0⟩ := hB
  have hD := gx_D.self hD0
  have hS : va_S (gx_in (mW g md J n v kn pr ar X)) s.heap s.heap [] := va_S.rf
  have hl : lv_has ls 5 [(0, .ref (md 0)), (1, .int x), (2, .int y)] := hl
  have hM0 := hM
  obtain ⟨-, -, hn12, hT, hE, hw, hdp, hv20, hV, hvw, hkn, hK⟩ := hM0
  refine lv_aload_n hx hb d_MM_compare_0 rfl (lv_at hl 0 rfl) ?_
  refine lv_iload_n hx hb d_MM_compare_1 rfl (lv_at hl 1 rfl) ?_
  refine vp_callSi (va_runV (own := R_MM) (As := [.int x]) (rest := []) ⟨hx, hb, hml, hown, hts⟩ (c_MM_isType (l := l) (g := g) (md := md) (J := J) (n := n) (v := v) (kn := kn) (pr := pr) (ar := ar) (X := X) (x := x) (by omega)) (cwV 1 hts (gx_goodV wd_448 wd_450 ws_14 wd_7 wd_451) rfl rfl rfl (by decide +kernel) ⟨Nat.le_of_ble_eq_true rfl, Nat.le_of_ble_eq_true rfl⟩) (gc_preV (gc_recv hP hG (ci := 5) rfl (q0 := 0) rfl) hP hG) rfl rfl hl.1 rfl (lv_room (Nat.le_of_ble_eq_true rfl)) d_MM_compare_2 ⟨Nat.le_refl _, Nat.le_refl _⟩).run (fun r hr2 => ?_)
  obtain ⟨z2, hq2, hz2⟩ := hr2
  subst hq2
  refine lv_if_eq (tgt := 16) hx hb d_MM_compare_5 (by decide) (mt_z fun hc5 => ?_) (mt_nz fun hc5 => ?_)
  · ---- 5T
    refine lv_iconst (v := -1) hx hb d_MM_compare_16 (by decide) ?_
    exact gc_retwi (u := (J, n, v, kn, pr, ar, X)) (Wf := fun (u : gMS) => mW g md u.1 u.2.1 u.2.2.1 u.2.2.2.1 u.2.2.2.2.1 u.2.2.2.2.2.1 u.2.2.2.2.2.2) (post := fun r (u : gMS) => sp_cmp (n, k, a, b, dp, fc) x y r ∧ mt_MR u (n, k, a, b, dp, fc) (v, vk, va, vb, vl)) hx hb hr hlk (⟨Or.inl ⟨(fun ⟨i9, _, h1, _⟩ => absurd (hz2.mpr ⟨i9, h1⟩) (by rw [hc5]; decide)), rfl⟩, hM⟩) hP hD hS d_MM_compare_17
  · ---- 5F
    obtain ⟨i, hxi_i⟩ := hz2.mp hc5
    have hlt_i := hxi_i.1
    have hp2_i : 2 ^ i ≤ 2 ^ 20 := Nat.pow_le_pow_right (n := 2) (i := i) (j := 20) (by decide) (by omega)
    have hq2_i : 2 ^ i ≤ 2 ^ 12 := Nat.pow_le_pow_right (n := 2) (i := i) (j := 12) (by decide) (by omega)
    refine lv_aload_n hx hb d_MM_compare_8 rfl (lv_at hl 0 rfl) ?_
    refine lv_iload_n hx hb d_MM_compare_9 rfl (lv_at hl 2 rfl) ?_
    refine vp_callSi (va_runV (own := R_MM) (As := [.int y]) (rest := []) ⟨hx, hb, hml, hown, hts⟩ (c_MM_isType (l := l) (g := g) (md := md) (J := J) (n := n) (v := v) (kn := kn) (pr := pr) (ar := ar) (X := X) (x := y) (by omega)) (cwV 1 hts (gx_goodV wd_448 wd_450 ws_14 wd_7 wd_451) rfl rfl rfl (by decide +kernel) ⟨Nat.le_of_ble_eq_true rfl, Nat.le_of_ble_eq_true rfl⟩) (gc_preV (gc_recv hP hG (ci := 5) rfl (q0 := 0) rfl) hP hG) rfl rfl hl.1 rfl (lv_room (Nat.le_of_ble_eq_true rfl)) d_MM_compare_10 ⟨Nat.le_refl _, Nat.le_refl _⟩).run (fun r hr10 => ?_)
    obtain ⟨z10, hq10, hz10⟩ := hr10
    subst hq10
    refine lv_if_ne (tgt := 18) hx hb d_MM_compare_13 (by decide) (mt_nz fun hc13 => ?_) (mt_z fun hc13 => ?_)
    · ---- 5F 13T
      obtain ⟨j, hxi_j⟩ := hz10.mp hc13
      have hlt_j := hxi_j.1
      have hp2_j : 2 ^ j ≤ 2 ^ 20 := Nat.pow_le_pow_right (n := 2) (i := j) (j := 20) (by decide) (by omega)
      have hq2_j : 2 ^ j ≤ 2 ^ 12 := Nat.pow_le_pow_right (n := 2) (i := j) (j := 12) (by decide) (by omega)
      refine lv_aload_n hx hb d_MM_compare_18 rfl (lv_at hl 0 rfl) ?_
      refine lv_aload_n hx hb d_MM_compare_19 rfl (lv_at hl 0 rfl) ?_
      refine va_get (D := g.1) (own := R_MM) (ref := R_MM) (ci := 5) (v := .int (nI n)) (C := R_MM) (T := F_MM) (N := 16) hx hb hts in_MM hown hG.1 hP 0 rfl rfl 0 (by decide) (hts _ wd_383) (fun _ h9 => h9) rfl d_MM_compare_20 ?_
      refine gc_cwv (va_runV (own := R_MM) (As := [.int (nI n)]) (rest := []) ⟨hx, hb, hml, hown, hts⟩ (c_MM_work (l := l) (g := g) (md := md) (J := J) (n := n) (v := v) (kn := kn) (pr := pr) (ar := ar) (X := X) (k := k) (a := a) (b := b) (nn := n) hT (by omega) hw (by omega) hK) (cwV 1 hts (gx_goodV wd_484 wd_486 ws_16 wd_7 wd_487) rfl rfl rfl (by decide +kernel) ⟨Nat.le_of_ble_eq_true rfl, Nat.le_of_ble_eq_true rfl⟩) (gc_preVW (gc_recv hP hG (ci := 5) rfl (q0 := 0) rfl) hP hG hD) rfl rfl hl.1 rfl (lv_room (Nat.le_of_ble_eq_true rfl)) d_MM_compare_23 ⟨Nat.le_refl _, Nat.le_refl _⟩) hD hS (fun u23 H locs hu23 hP hD hS => ?_)
      obtain ⟨P23, kn23, pr23, ar23, X23⟩ := u23
      obtain ⟨hkn23, hK23⟩ := hu23
      dsimp only at hkn23 hK23 hP hD
      rw [hkn23] at hP hD
      have hP : va_P g.1 gx_cl (mW g md (va_up J 9 P23) n v n pr23 ar23 X23) H := hP
      have hD : va_D (gx_in (mW g md J n v kn pr ar X)) (mW g md (va_up J 9 P23) n v n pr23 ar23 X23) := hD
      refine lv_aload_n hx hb d_MM_compare_26 rfl (lv_at hl 0 rfl) ?_
      refine lv_iload_n hx hb d_MM_compare_27 rfl (lv_at hl 1 rfl) ?_
      refine mt_ri (y := nI i) hxi_i.2 ?_
      refine lv_iload_n hx hb d_MM_compare_28 rfl (lv_at hl 2 rfl) ?_
      refine mt_ri (y := nI j) hxi_j.2 ?_
      refine vp_callSi (va_runV (own := R_MM) (As := [.int (nI i), .int (nI j)]) (rest := []) ⟨hx, hb, hml, hown, hts⟩ (c_MM_lies (l := l) (g := g) (md := md) (J := va_up J 9 P23) (n := n) (v := v) (kn := n) (pr := pr23) (ar := ar23) (X := X23) (i := i) (j := j) (by omega) (by omega)) (cwV 2 hts (gx_goodV wd_540 wd_542 ws_29 wd_7 wd_543) rfl rfl rfl (by decide +kernel) ⟨Nat.le_of_ble_eq_true rfl, Nat.le_of_ble_eq_true rfl⟩) (gc_preV (gc_recv hP hG (ci := 5) rfl (q0 := 0) rfl) hP hG) rfl rfl hl.1 rfl (lv_room (Nat.le_of_ble_eq_true rfl)) d_MM_compare_29 ⟨Nat.le_refl _, Nat.le_refl _⟩).run (fun r hr29 => ?_)
      obtain ⟨z29, hq29, hz29⟩ := hr29
      subst hq29
      refine lv_istore_n (lv' := [(3, .int (mt_b z29)), (0, .ref (md 0)), (1, .int x), (2, .int y)]) hx hb d_MM_compare_32 rfl hl (by decide) rfl (fun ls hl => ?_)
      refine lv_aload_n hx hb d_MM_compare_33 rfl (lv_at hl 1 rfl) ?_
      refine lv_iload_n hx hb d_MM_compare_34 rfl (lv_at hl 3 rfl) ?_
      refine mt_ri (y := nI j) hxi_j.2 ?_
      refine lv_iload_n hx hb d_MM_compare_35 rfl (lv_at hl 2 rfl) ?_
      refine mt_ri (y := nI i) hxi_i.2 ?_
      refine vp_callSi (va_runV (own := R_MM) (As := [.int (nI j), .int (nI i)]) (rest := []) ⟨hx, hb, hml, hown, hts⟩ (c_MM_lies (l := l) (g := g) (md := md) (J := va_up J 9 P23) (n := n) (v := v) (kn := n) (pr := pr23) (ar := ar23) (X := X23) (i := j) (j := i) (by omega) (by omega)) (cwV 2 hts (gx_goodV wd_540 wd_542 ws_29 wd_7 wd_543) rfl rfl rfl (by decide +kernel) ⟨Nat.le_of_ble_eq_true rfl, Nat.le_of_ble_eq_true rfl⟩) (gc_preV (gc_recv hP hG (ci := 5) rfl (q0 := 0) rfl) hP hG) rfl rfl hl.1 rfl (lv_room (Nat.le_of_ble_eq_true rfl)) d_MM_compare_36 ⟨Nat.le_refl _, Nat.le_refl _⟩).run (fun r hr36 => ?_)
      obtain ⟨z36, hq36, hz36⟩ := hr36
      subst hq36
      refine lv_istore (lv' := [(4, .int (mt_b z36)), (3, .int (mt_b z29)), (0, .ref (md 0)), (1, .int x), (2, .int y)]) hx hb d_MM_compare_39 hl (by decide) rfl (fun ls hl => ?_)
      refine lv_iload_n hx hb d_MM_compare_41 rfl (lv_at hl 1 rfl) ?_
      refine lv_if_eq (tgt := 54) hx hb d_MM_compare_42 (by decide) (mt_z fun hc42 => ?_) (mt_nz fun hc42 => ?_)
      · ---- 5F 13T 42T
        refine lv_iload_n hx hb d_MM_compare_54 rfl (lv_at hl 1 rfl) ?_
        refine lv_if_eq (tgt := 62) hx hb d_MM_compare_55 (by decide) (mt_z fun hc55 => ?_) (mt_nz fun hc55 => ?_)
        · ---- 5F 13T 42T 55T
          refine lv_iload hx hb d_MM_compare_62 (lv_at hl 0 rfl) ?_
          refine lv_if_eq (tgt := 71) hx hb d_MM_compare_64 (by decide) (mt_z fun hc64 => ?_) (mt_nz fun hc64 => ?_)
          · ---- 5F 13T 42T 55T 64T
            refine lv_aload_n hx hb d_MM_compare_71 rfl (lv_at hl 2 rfl) ?_
            refine lv_iload_n hx hb d_MM_compare_72 rfl (lv_at hl 3 rfl) ?_
            refine mt_ri (y := nI i) hxi_i.2 ?_
            refine lv_iload_n hx hb d_MM_compare_73 rfl (lv_at hl 4 rfl) ?_
            refine mt_ri (y := nI j) hxi_j.2 ?_
            refine lv_iconst (v := nI 1) hx hb d_MM_compare_74 (by decide) ?_
            refine vp_callSi (va_runV (own := R_MM) (As := [.int (nI i), .int (nI j), .int (nI 1)]) (rest := []) ⟨hx, hb, hml, hown, hts⟩ (c_MM_meets1 (l := l) (g := g) (md := md) (J := va_up J 9 P23) (n := n) (v := v) (kn := n) (pr := pr23) (ar := ar23) (X := X23) (i := i) (j := j) (by omega) (by omega)) (cwV 3 hts (gx_goodV wd_532 wd_534 ws_28 wd_7 wd_535) rfl rfl rfl (by decide +kernel) ⟨Nat.le_of_ble_eq_true rfl, Nat.le_of_ble_eq_true rfl⟩) (gc_preV (gc_recv hP hG (ci := 5) rfl (q0 := 0) rfl) hP hG) rfl rfl hl.1 rfl (lv_room (Nat.le_of_ble_eq_true rfl)) d_MM_compare_75 ⟨Nat.le_refl _, Nat.le_refl _⟩).run (fun r hr75 => ?_)
            obtain ⟨z75, hq75, hz75⟩ := hr75
            subst hq75
            refine lv_if_eq (tgt := 85) hx hb d_MM_compare_78 (by decide) (mt_z fun hc78 => ?_) (mt_nz fun hc78 => ?_)
            · ---- 5F 13T 42T 55T 64T 78T
              refine lv_iconst (v := nI 4) hx hb d_MM_compare_85 (by decide) ?_
              exact gc_retwi (u := (va_up J 9 P23, n, v, n, pr23, ar23, X23)) (Wf := fun (u : gMS) => mW g md u.1 u.2.1 u.2.2.1 u.2.2.2.1 u.2.2.2.2.1 u.2.2.2.2.2.1 u.2.2.2.2.2.2) (post := fun r (u : gMS) => sp_cmp (n, k, a, b, dp, fc) x y r ∧ mt_MR u (n, k, a, b, dp, fc) (v, vk, va, vb, vl)) hx hb hr hlk (⟨Or.inr ⟨i, j, hxi_i, hxi_j, Or.inr (Or.inr (Or.inr (Or.inr ⟨(fun h9 => by have h8 := ((hz29).trans (mt_lies_of hK23.2 hn12)).mpr h9; rw [hc42] at h8; cases h8), (fun h9 => by have h8 := ((hz36).trans (mt_lies_of hK23.2 hn12)).mpr h9; rw [hc64] at h8; cases h8), (fun h9 => by have h8 := ((hz75).trans (mt_meets_of hK23.2 hn12)).mpr h9; rw [hc78] at h8; cases h8), rfl⟩)))⟩, mt_MR_wk hM hK23⟩) hP hD hS d_MM_compare_86
            · ---- 5F 13T 42T 55T 64T 78F
              refine lv_iconst (v := nI 0) hx hb d_MM_compare_81 (by decide) ?_
              refine lv_goto (tgt := 86) hx hb d_MM_compare_82 (by decide) ?_
              exact gc_retwi (u := (va_up J 9 P23, n, v, n, pr23, ar23, X23)) (Wf := fun (u : gMS) => mW g md u.1 u.2.1 u.2.2.1 u.2.2.2.1 u.2.2.2.2.1 u.2.2.2.2.2.1 u.2.2.2.2.2.2) (post := fun r (u : gMS) => sp_cmp (n, k, a, b, dp, fc) x y r ∧ mt_MR u (n, k, a, b, dp, fc) (v, vk, va, vb, vl)) hx hb hr hlk (⟨Or.inr ⟨i, j, hxi_i, hxi_j, Or.inr (Or.inr (Or.inr (Or.inl ⟨(fun h9 => by have h8 := ((hz29).trans (mt_lies_of hK23.2 hn12)).mpr h9; rw [hc42] at h8; cases h8), (fun h9 => by have h8 := ((hz36).trans (mt_lies_of hK23.2 hn12)).mpr h9; rw [hc64] at h8; cases h8), ((hz75).trans (mt_meets_of hK23.2 hn12)).mp hc78, rfl⟩)))⟩, mt_MR_wk hM hK23⟩) hP hD hS d_MM_compare_86
          · ---- 5F 13T 42T 55T 64F
            refine lv_iconst (v := nI 2) hx hb d_MM_compare_67 (by decide) ?_
            refine lv_goto (tgt := 86) hx hb d_MM_compare_68 (by decide) ?_
            exact gc_retwi (u := (va_up J 9 P23, n, v, n, pr23, ar23, X23)) (Wf := fun (u : gMS) => mW g md u.1 u.2.1 u.2.2.1 u.2.2.2.1 u.2.2.2.2.1 u.2.2.2.2.2.1 u.2.2.2.2.2.2) (post := fun r (u : gMS) => sp_cmp (n, k, a, b, dp, fc) x y r ∧ mt_MR u (n, k, a, b, dp, fc) (v, vk, va, vb, vl)) hx hb hr hlk (⟨Or.inr ⟨i, j, hxi_i, hxi_j, Or.inr (Or.inr (Or.inl ⟨(fun h9 => by have h8 := ((hz29).trans (mt_lies_of hK23.2 hn12)).mpr h9; rw [hc42] at h8; cases h8), ((hz36).trans (mt_lies_of hK23.2 hn12)).mp hc64, rfl⟩))⟩, mt_MR_wk hM hK23⟩) hP hD hS d_MM_compare_86
        · ---- 5F 13T 42T 55F
          refine lv_iconst (v := nI 1) hx hb d_MM_compare_58 (by decide) ?_
          refine lv_goto (tgt := 86) hx hb d_MM_compare_59 (by decide) ?_
          exact gc_retwi (u := (va_up J 9 P23, n, v, n, pr23, ar23, X23)) (Wf := fun (u : gMS) => mW g md u.1 u.2.1 u.2.2.1 u.2.2.2.1 u.2.2.2.2.1 u.2.2.2.2.2.1 u.2.2.2.2.2.2) (post := fun r (u : gMS) => sp_cmp (n, k, a, b, dp, fc) x y r ∧ mt_MR u (n, k, a, b, dp, fc) (v, vk, va, vb, vl)) hx hb hr hlk (absurd hc55 (by rw [hc42]; decide)) hP hD hS d_MM_compare_86
      · ---- 5F 13T 42F
        refine lv_iload hx hb d_MM_compare_45 (lv_at hl 0 rfl) ?_
        refine lv_if_eq (tgt := 54) hx hb d_MM_compare_47 (by decide) (mt_z fun hc47 => ?_) (mt_nz fun hc47 => ?_)
        · ---- 5F 13T 42F 47T
          refine lv_iload_n hx hb d_MM_compare_54 rfl (lv_at hl 1 rfl) ?_
          refine lv_if_eq (tgt := 62) hx hb d_MM_compare_55 (by decide) (mt_z fun hc55 => ?_) (mt_nz fun hc55 => ?_)
          · ---- 5F 13T 42F 47T 55T
            refine lv_iload hx hb d_MM_compare_62 (lv_at hl 0 rfl) ?_
            refine lv_if_eq (tgt := 71) hx hb d_MM_compare_64 (by decide) (mt_z fun hc64 => ?_) (mt_nz fun hc64 => ?_)
            · ---- 5F 13T 42F 47T 55T 64T
              refine lv_aload_n hx hb d_MM_compare_71 rfl (lv_at hl 2 rfl) ?_
              refine lv_iload_n hx hb d_MM_compare_72 rfl (lv_at hl 3 rfl) ?_
              refine mt_ri (y := nI i) hxi_i.2 ?_
              refine lv_iload_n hx hb d_MM_compare_73 rfl (lv_at hl 4 rfl) ?_
              refine mt_ri (y := nI j) hxi_j.2 ?_
              refine lv_iconst (v := nI 1) hx hb d_MM_compare_74 (by decide) ?_
              refine vp_callSi (va_runV (own := R_MM) (As := [.int (nI i), .int (nI j), .int (nI 1)]) (rest := []) ⟨hx, hb, hml, hown, hts⟩ (c_MM_meets1 (l := l) (g := g) (md := md) (J := va_up J 9 P23) (n := n) (v := v) (kn := n) (pr := pr23) (ar := ar23) (X := X23) (i := i) (j := j) (by omega) (by omega)) (cwV 3 hts (gx_goodV wd_532 wd_534 ws_28 wd_7 wd_535) rfl rfl rfl (by decide +kernel) ⟨Nat.le_of_ble_eq_true rfl, Nat.le_of_ble_eq_true rfl⟩) (gc_preV (gc_recv hP hG (ci := 5) rfl (q0 := 0) rfl) hP hG) rfl rfl hl.1 rfl (lv_room (Nat.le_of_ble_eq_true rfl)) d_MM_compare_75 ⟨Nat.le_refl _, Nat.le_refl _⟩).run (fun r hr75 => ?_)
              obtain ⟨z75, hq75, hz75⟩ := hr75
              subst hq75
              refine lv_if_eq (tgt := 85) hx hb d_MM_compare_78 (by decide) (mt_z fun hc78 => ?_) (mt_nz fun hc78 => ?_)
              · ---- 5F 13T 42F 47T 55T 64T 78T
                refine lv_iconst (v := nI 4) hx hb d_MM_compare_85 (by decide) ?_
                exact gc_retwi (u := (va_up J 9 P23, n, v, n, pr23, ar23, X23)) (Wf := fun (u : gMS) => mW g md u.1 u.2.1 u.2.2.1 u.2.2.2.1 u.2.2.2.2.1 u.2.2.2.2.2.1 u.2.2.2.2.2.2) (post := fun r (u : gMS) => sp_cmp (n, k, a, b, dp, fc) x y r ∧ mt_MR u (n, k, a, b, dp, fc) (v, vk, va, vb, vl)) hx hb hr hlk (absurd hc42 (by rw [hc55]; decide)) hP hD hS d_MM_compare_86
              · ---- 5F 13T 42F 47T 55T 64T 78F
                refine lv_iconst (v := nI 0) hx hb d_MM_compare_81 (by decide) ?_
                refine lv_goto (tgt := 86) hx hb d_MM_compare_82 (by decide) ?_
                exact gc_retwi (u := (va_up J 9 P23, n, v, n, pr23, ar23, X23)) (Wf := fun (u : gMS) => mW g md u.1 u.2.1 u.2.2.1 u.2.2.2.1 u.2.2.2.2.1 u.2.2.2.2.2.1 u.2.2.2.2.2.2) (post := fun r (u : gMS) => sp_cmp (n, k, a, b, dp, fc) x y r ∧ mt_MR u (n, k, a, b, dp, fc) (v, vk, va, vb, vl)) hx hb hr hlk (absurd hc42 (by rw [hc55]; decide)) hP hD hS d_MM_compare_86
            · ---- 5F 13T 42F 47T 55T 64F
              refine lv_iconst (v := nI 2) hx hb d_MM_compare_67 (by decide) ?_
              refine lv_goto (tgt := 86) hx hb d_MM_compare_68 (by decide) ?_
              exact gc_retwi (u := (va_up J 9 P23, n, v, n, pr23, ar23, X23)) (Wf := fun (u : gMS) => mW g md u.1 u.2.1 u.2.2.1 u.2.2.2.1 u.2.2.2.2.1 u.2.2.2.2.2.1 u.2.2.2.2.2.2) (post := fun r (u : gMS) => sp_cmp (n, k, a, b, dp, fc) x y r ∧ mt_MR u (n, k, a, b, dp, fc) (v, vk, va, vb, vl)) hx hb hr hlk (absurd hc42 (by rw [hc55]; decide)) hP hD hS d_MM_compare_86
          · ---- 5F 13T 42F 47T 55F
            refine lv_iconst (v := nI 1) hx hb d_MM_compare_58 (by decide) ?_
            refine lv_goto (tgt := 86) hx hb d_MM_compare_59 (by decide) ?_
            exact gc_retwi (u := (va_up J 9 P23, n, v, n, pr23, ar23, X23)) (Wf := fun (u : gMS) => mW g md u.1 u.2.1 u.2.2.1 u.2.2.2.1 u.2.2.2.2.1 u.2.2.2.2.2.1 u.2.2.2.2.2.2) (post := fun r (u : gMS) => sp_cmp (n, k, a, b, dp, fc) x y r ∧ mt_MR u (n, k, a, b, dp, fc) (v, vk, va, vb, vl)) hx hb hr hlk (⟨Or.inr ⟨i, j, hxi_i, hxi_j, Or.inr (Or.inl ⟨((hz29).trans (mt_lies_of hK23.2 hn12)).mp hc42, (fun h9 => by have h8 := ((hz36).trans (mt_lies_of hK23.2 hn12)).mpr h9; rw [hc47] at h8; cases h8), rfl⟩)⟩, mt_MR_wk hM hK23⟩) hP hD hS d_MM_compare_86
        · ---- 5F 13T 42F 47F
          refine lv_iconst (v := nI 3) hx hb d_MM_compare_50 (by decide) ?_
          refine lv_goto (tgt := 86) hx hb d_MM_compare_51 (by decide) ?_
          exact gc_retwi (u := (va_up J 9 P23, n, v, n, pr23, ar23, X23)) (Wf := fun (u : gMS) => mW g md u.1 u.2.1 u.2.2.1 u.2.2.2.1 u.2.2.2.2.1 u.2.2.2.2.2.1 u.2.2.2.2.2.2) (post := fun r (u : gMS) => sp_cmp (n, k, a, b, dp, fc) x y r ∧ mt_MR u (n, k, a, b, dp, fc) (v, vk, va, vb, vl)) hx hb hr hlk (⟨Or.inr ⟨i, j, hxi_i, hxi_j, Or.inl ⟨((hz29).trans (mt_lies_of hK23.2 hn12)).mp hc42, ((hz36).trans (mt_lies_of hK23.2 hn12)).mp hc47, rfl⟩⟩, mt_MR_wk hM hK23⟩) hP hD hS d_MM_compare_86
    · ---- 5F 13F
      refine lv_iconst (v := -1) hx hb d_MM_compare_16 (by decide) ?_
      exact gc_retwi (u := (J, n, v, kn, pr, ar, X)) (Wf := fun (u : gMS) => mW g md u.1 u.2.1 u.2.2.1 u.2.2.2.1 u.2.2.2.2.1 u.2.2.2.2.2.1 u.2.2.2.2.2.2) (post := fun r (u : gMS) => sp_cmp (n, k, a, b, dp, fc) x y r ∧ mt_MR u (n, k, a, b, dp, fc) (v, vk, va, vb, vl)) hx hb hr hlk (⟨Or.inl ⟨(fun ⟨_, j9, _, h1⟩ => absurd (hz10.mpr ⟨j9, h1⟩) (by rw [hc13]; decide)), rfl⟩, hM⟩) hP hD hS d_MM_compare_17

set_option maxHeartbeats 4000000 in
set_option maxRecDepth 100000 in
theorem c_MM_answers {g : gG} {md : Nat → Nat} {J : Nat → Nat → Int32} {n v kn pr ar : Nat} {X : Nat → Int64} {k a b : Nat → Nat} {dp : Nat → Nat} {fc : Nat → Bool} {vk va vb vl : Nat → Nat} {x y o : Int32} {l : Launch} (hM : mt_MR (J, n, v, kn, pr, ar, X) (n, k, a, b, dp, fc) (v, vk, va, vb, vl))  :
    gc_RW (S := gMS) l y_MM_answers (gx_ws y_MM_answers b_MM_answers 5 (some .boolean)) 5 112 g [.ref (md 0), .int x, .int y, .int o] (mW g md J n v kn pr ar X) (fun (u : gMS) => mW g md u.1 u.2.1 u.2.2.1 u.2.2.2.1 u.2.2.2.2.1 u.2.2.2.2.2.1 u.2.2.2.2.2.2) (fun r (u : gMS) => sp_ans (n, k, a, b, dp, fc) x y o r ∧ mt_MR u (n, k, a, b, dp, fc) (v, vk, va, vb, vl)) := by
  refine gx_body (by decide) (Nat.le_of_ble_eq_true rfl) ?_
  intro p e s m below meth c ls hAt hB hl
  obtain ⟨hx, hb, hml, hown, hts, hr, hlk, hnm⟩ := hAt
  have hown : s.vm.findClass R_MM = some m.cls := hown
  obtain ⟨⟨hP, hG⟩, hD0⟩ := hB
  have hD := gx_D.self hD0
  have hS : va_S (gx_in (mW g md J n v kn pr ar X)) s.heap s.heap [] := va_S.rf
  have hl : lv_has ls 5 [(0, .ref (md 0)), (1, .int x), (2, .int y), (3, .int o)] := hl
  have hM0 := hM
  obtain ⟨-, -, hn12, hT, hE, hw, hdp, hv20, hV, hvw, hkn, hK⟩ := hM0
  refine lv_aload_n hx hb d_MM_answers_0 rfl (lv_at hl 0 rfl) ?_
  refine lv_iload_n hx hb d_MM_answers_1 rfl (lv_at hl 1 rfl) ?_
  refine vp_callSi (va_runV (own := R_MM) (As := [.int x]) (rest := []) ⟨hx, hb, hml, hown, hts⟩ (c_MM_isType (l := l) (g := g) (md := md) (J := J) (n := n) (v := v) (kn := kn) (pr := pr) (ar := ar) (X := X) (x := x) (by omega)) (cwV 1 hts (gx_goodV wd_448 wd_450 ws_14 wd_7 wd_451) rfl rfl rfl (by decide +kernel) ⟨Nat.le_of_ble_eq_true rfl, Nat.le_of_ble_eq_true rfl⟩) (gc_preV (gc_recv hP hG (ci := 5) rfl (q0 := 0) rfl) hP hG) rfl rfl hl.1 rfl (lv_room (Nat.le_of_ble_eq_true rfl)) d_MM_answers_2 ⟨Nat.le_refl _, Nat.le_refl _⟩).run (fun r hr2 => ?_)
  obtain ⟨z2, hq2, hz2⟩ := hr2
  subst hq2
  refine lv_if_eq (tgt := 36) hx hb d_MM_answers_5 (by decide) (mt_z fun hc5 => ?_) (mt_nz fun hc5 => ?_)
  · ---- 5T
    refine lv_iconst (v := nI 0) hx hb d_MM_answers_36 (by decide) ?_
    exact gc_retwz (u := (J, n, v, kn, pr, ar, X)) (v := false) (Wf := fun (u : gMS) => mW g md u.1 u.2.1 u.2.2.1 u.2.2.2.1 u.2.2.2.2.1 u.2.2.2.2.2.1 u.2.2.2.2.2.2) (post := fun r (u : gMS) => sp_ans (n, k, a, b, dp, fc) x y o r ∧ mt_MR u (n, k, a, b, dp, fc) (v, vk, va, vb, vl)) hx hb hr hlk (⟨⟨false, rfl, (fun h => by cases h), (fun ⟨i9, _, _, h1, _⟩ => absurd (hz2.mpr ⟨i9, h1⟩) (by rw [hc5]; decide))⟩, hM⟩) hP hD hS d_MM_answers_37
  · ---- 5F
    obtain ⟨i, hxi_i⟩ := hz2.mp hc5
    have hlt_i := hxi_i.1
    have hp2_i : 2 ^ i ≤ 2 ^ 20 := Nat.pow_le_pow_right (n := 2) (i := i) (j := 20) (by decide) (by omega)
    have hq2_i : 2 ^ i ≤ 2 ^ 12 := Nat.pow_le_pow_right (n := 2) (i := i) (j := 12) (by decide) (by omega)
    refine lv_aload_n hx hb d_MM_answers_8 rfl (lv_at hl 0 rfl) ?_
    refine lv_iload_n hx hb d_MM_answers_9 rfl (lv_at hl 2 rfl) ?_
    refine vp_callSi (va_runV (own := R_MM) (As := [.int y]) (rest := []) ⟨hx, hb, hml, hown, hts⟩ (c_MM_isType (l := l) (g := g) (md := md) (J := J) (n := n) (v := v) (kn := kn) (pr := pr) (ar := ar) (X := X) (x := y) (by omega)) (cwV 1 hts (gx_goodV wd_448 wd_450 ws_14 wd_7 wd_451) rfl rfl rfl (by decide +kernel) ⟨Nat.le_of_ble_eq_true rfl, Nat.le_of_ble_eq_true rfl⟩) (gc_preV (gc_recv hP hG (ci := 5) rfl (q0 := 0) rfl) hP hG) rfl rfl hl.1 rfl (lv_room (Nat.le_of_ble_eq_true rfl)) d_MM_answers_10 ⟨Nat.le_refl _, Nat.le_refl _⟩).run (fun r hr10 => ?_)
    obtain ⟨z10, hq10, hz10⟩ := hr10
    subst hq10
    refine lv_if_eq (tgt := 36) hx hb d_MM_answers_13 (by decide) (mt_z fun hc13 => ?_) (mt_nz fun hc13 => ?_)
    · ---- 5F 13T
      refine lv_iconst (v := nI 0) hx hb d_MM_answers_36 (by decide) ?_
      exact gc_retwz (u := (J, n, v, kn, pr, ar, X)) (v := false) (Wf := fun (u : gMS) => mW g md u.1 u.2.1 u.2.2.1 u.2.2.2.1 u.2.2.2.2.1 u.2.2.2.2.2.1 u.2.2.2.2.2.2) (post := fun r (u : gMS) => sp_ans (n, k, a, b, dp, fc) x y o r ∧ mt_MR u (n, k, a, b, dp, fc) (v, vk, va, vb, vl)) hx hb hr hlk (⟨⟨false, rfl, (fun h => by cases h), (fun ⟨_, j9, _, _, h1, _⟩ => absurd (hz10.mpr ⟨j9, h1⟩) (by rw [hc13]; decide))⟩, hM⟩) hP hD hS d_MM_answers_37
    · ---- 5F 13F
      obtain ⟨j, hxi_j⟩ := hz10.mp hc13
      have hlt_j := hxi_j.1
      have hp2_j : 2 ^ j ≤ 2 ^ 20 := Nat.pow_le_pow_right (n := 2) (i := j) (j := 20) (by decide) (by omega)
      have hq2_j : 2 ^ j ≤ 2 ^ 12 := Nat.pow_le_pow_right (n := 2) (i := j) (j := 12) (by decide) (by omega)
      have hd_j := hdp j hlt_j
      refine lv_aload_n hx hb d_MM_answers_16 rfl (lv_at hl 0 rfl) ?_
      refine lv_iload_n hx hb d_MM_answers_17 rfl (lv_at hl 3 rfl) ?_
      refine vp_callSi (va_runV (own := R_MM) (As := [.int o]) (rest := []) ⟨hx, hb, hml, hown, hts⟩ (c_MM_isType (l := l) (g := g) (md := md) (J := J) (n := n) (v := v) (kn := kn) (pr := pr) (ar := ar) (X := X) (x := o) (by omega)) (cwV 1 hts (gx_goodV wd_448 wd_450 ws_14 wd_7 wd_451) rfl rfl rfl (by decide +kernel) ⟨Nat.le_of_ble_eq_true rfl, Nat.le_of_ble_eq_true rfl⟩) (gc_preV (gc_recv hP hG (ci := 5) rfl (q0 := 0) rfl) hP hG) rfl rfl hl.1 rfl (lv_room (Nat.le_of_ble_eq_true rfl)) d_MM_answers_18 ⟨Nat.le_refl _, Nat.le_refl _⟩).run (fun r hr18 => ?_)
      obtain ⟨z18, hq18, hz18⟩ := hr18
      subst hq18
      refine lv_if_eq (tgt := 36) hx hb d_MM_answers_21 (by decide) (mt_z fun hc21 => ?_) (mt_nz fun hc21 => ?_)
      · ---- 5F 13F 21T
        refine lv_iconst (v := nI 0) hx hb d_MM_answers_36 (by decide) ?_
        exact gc_retwz (u := (J, n, v, kn, pr, ar, X)) (v := false) (Wf := fun (u : gMS) => mW g md u.1 u.2.1 u.2.2.1 u.2.2.2.1 u.2.2.2.2.1 u.2.2.2.2.2.1 u.2.2.2.2.2.2) (post := fun r (u : gMS) => sp_ans (n, k, a, b, dp, fc) x y o r ∧ mt_MR u (n, k, a, b, dp, fc) (v, vk, va, vb, vl)) hx hb hr hlk (⟨⟨false, rfl, (fun h => by cases h), (fun ⟨_, _, h8, _, _, h1, _⟩ => absurd (hz18.mpr ⟨h8, h1⟩) (by rw [hc21]; decide))⟩, hM⟩) hP hD hS d_MM_answers_37
      · ---- 5F 13F 21F
        obtain ⟨h, hxi_h⟩ := hz18.mp hc21
        have hlt_h := hxi_h.1
        have hp2_h : 2 ^ h ≤ 2 ^ 20 := Nat.pow_le_pow_right (n := 2) (i := h) (j := 20) (by decide) (by omega)
        have hq2_h : 2 ^ h ≤ 2 ^ 12 := Nat.pow_le_pow_right (n := 2) (i := h) (j := 12) (by decide) (by omega)
        have hd_h := hdp h hlt_h
        refine lv_aload_n hx hb d_MM_answers_24 rfl (lv_at hl 0 rfl) ?_
        refine lv_iload_n hx hb d_MM_answers_25 rfl (lv_at hl 2 rfl) ?_
        refine mt_ri (y := nI j) hxi_j.2 ?_
        refine lv_iload_n hx hb d_MM_answers_26 rfl (lv_at hl 3 rfl) ?_
        refine mt_ri (y := nI h) hxi_h.2 ?_
        refine vp_callSi (va_runV (own := R_MM) (As := [.int (nI j), .int (nI h)]) (rest := []) ⟨hx, hb, hml, hown, hts⟩ (c_MM_deeper (l := l) (g := g) (md := md) (J := J) (n := n) (v := v) (kn := kn) (pr := pr) (ar := ar) (X := X) (dp := dp) (fc := fc) (x := j) (y := h) hE (by omega) hdp (by omega) (by omega)) (cwV 2 hts (gx_goodV wd_452 wd_454 ws_15 wd_7 wd_455) rfl rfl rfl (by decide +kernel) ⟨Nat.le_of_ble_eq_true rfl, Nat.le_of_ble_eq_true rfl⟩) (gc_preV (gc_recv hP hG (ci := 5) rfl (q0 := 0) rfl) hP hG) rfl rfl hl.1 rfl (lv_room (Nat.le_of_ble_eq_true rfl)) d_MM_answers_27 ⟨Nat.le_refl _, Nat.le_refl _⟩).run (fun r hr27 => ?_)
        subst hr27
        refine lv_iconst (v := nI 1) hx hb d_MM_answers_30 (by decide) ?_
        refine lv_iadd hx hb d_MM_answers_31 ?_
        refine mt_ri (y := nI (max (dp j) (dp h) + 1)) (nI_add _ _) ?_
        refine lv_iconst (v := nI 5) hx hb d_MM_answers_32 (by decide) ?_
        refine lv_icmp_le (tgt := 38) hx hb d_MM_answers_33 (by decide) (mt_le (by omega) (by omega) fun hc33 => ?_) (mt_nle (by omega) (by omega) fun hc33 => ?_)
        · ---- 5F 13F 21F 33T
          refine lv_aload_n hx hb d_MM_answers_38 rfl (lv_at hl 0 rfl) ?_
          refine va_get (D := g.1) (own := R_MM) (ref := R_MM) (ci := 5) (v := .ref (md 1)) (C := R_MM) (T := F_MM) (N := 16) hx hb hts in_MM hown hG.1 hP 0 rfl rfl 1 (by decide) (hts _ wd_384) (fun _ h9 => h9) rfl d_MM_answers_39 ?_
          refine lv_aload_n hx hb d_MM_answers_42 rfl (lv_at hl 0 rfl) ?_
          refine va_get (D := g.1) (own := R_MM) (ref := R_MM) (ci := 5) (v := .int (nI n)) (C := R_MM) (T := F_MM) (N := 16) hx hb hts in_MM hown hG.1 hP 0 rfl rfl 0 (by decide) (hts _ wd_383) (fun _ h9 => h9) rfl d_MM_answers_43 ?_
          refine lv_iconst (v := nI 2) hx hb d_MM_answers_46 (by decide) ?_
          refine va_iast hx hb hG.1 hP hD hS 1 0 rfl rfl (vp_in_nI (by omega) (by decide)) d_MM_answers_47 (fun H locs hP hD hS => ?_)
          rw [nI_clamp (by omega)] at hP hD
          have hP : va_P g.1 gx_cl (mW g md (va_up J 0 (upd (J 0) n (nI 2))) n v kn pr ar X) H := hP
          have hD : va_D (gx_in (mW g md J n v kn pr ar X)) (mW g md (va_up J 0 (upd (J 0) n (nI 2))) n v kn pr ar X) := hD
          refine lv_aload_n hx hb d_MM_answers_48 rfl (lv_at hl 0 rfl) ?_
          refine va_get (D := g.1) (own := R_MM) (ref := R_MM) (ci := 5) (v := .ref (md 2)) (C := R_MM) (T := F_MM) (N := 16) hx hb hts in_MM hown hG.1 hP 0 rfl rfl 2 (by decide) (hts _ wd_385) (fun _ h9 => h9) rfl d_MM_answers_49 ?_
          refine lv_aload_n hx hb d_MM_answers_52 rfl (lv_at hl 0 rfl) ?_
          refine va_get (D := g.1) (own := R_MM) (ref := R_MM) (ci := 5) (v := .int (nI n)) (C := R_MM) (T := F_MM) (N := 16) hx hb hts in_MM hown hG.1 hP 0 rfl rfl 0 (by decide) (hts _ wd_383) (fun _ h9 => h9) rfl d_MM_answers_53 ?_
          refine lv_iload_n hx hb d_MM_answers_56 rfl (lv_at hl 2 rfl) ?_
          refine mt_ri (y := nI j) hxi_j.2 ?_
          refine va_iast hx hb hG.1 hP hD hS 2 0 rfl rfl (vp_in_nI (by omega) (by decide)) d_MM_answers_57 (fun H locs hP hD hS => ?_)
          rw [nI_clamp (by omega)] at hP hD
          have hP : va_P g.1 gx_cl (mW g md (va_up (va_up J 0 (upd (J 0) n (nI 2))) 1 (upd ((va_up J 0 (upd (J 0) n (nI 2))) 1) n (nI j))) n v kn pr ar X) H := hP
          have hD : va_D (gx_in (mW g md J n v kn pr ar X)) (mW g md (va_up (va_up J 0 (upd (J 0) n (nI 2))) 1 (upd ((va_up J 0 (upd (J 0) n (nI 2))) 1) n (nI j))) n v kn pr ar X) := hD
          refine lv_aload_n hx hb d_MM_answers_58 rfl (lv_at hl 0 rfl) ?_
          refine va_get (D := g.1) (own := R_MM) (ref := R_MM) (ci := 5) (v := .ref (md 3)) (C := R_MM) (T := F_MM) (N := 16) hx hb hts in_MM hown hG.1 hP 0 rfl rfl 3 (by decide) (hts _ wd_386) (fun _ h9 => h9) rfl d_MM_answers_59 ?_
          refine lv_aload_n hx hb d_MM_answers_62 rfl (lv_at hl 0 rfl) ?_
          refine va_get (D := g.1) (own := R_MM) (ref := R_MM) (ci := 5) (v := .int (nI n)) (C := R_MM) (T := F_MM) (N := 16) hx hb hts in_MM hown hG.1 hP 0 rfl rfl 0 (by decide) (hts _ wd_383) (fun _ h9 => h9) rfl d_MM_answers_63 ?_
          refine lv_iload_n hx hb d_MM_answers_66 rfl (lv_at hl 3 rfl) ?_
          refine mt_ri (y := nI h) hxi_h.2 ?_
          refine va_iast hx hb hG.1 hP hD hS 3 0 rfl rfl (vp_in_nI (by omega) (by decide)) d_MM_answers_67 (fun H locs hP hD hS => ?_)
          rw [nI_clamp (by omega)] at hP hD
          have hP : va_P g.1 gx_cl (mW g md (va_up (va_up (va_up J 0 (upd (J 0) n (nI 2))) 1 (upd ((va_up J 0 (upd (J 0) n (nI 2))) 1) n (nI j))) 2 (upd ((va_up (va_up J 0 (upd (J 0) n (nI 2))) 1 (upd ((va_up J 0 (upd (J 0) n (nI 2))) 1) n (nI j))) 2) n (nI h))) n v kn pr ar X) H := hP
          have hD : va_D (gx_in (mW g md J n v kn pr ar X)) (mW g md (va_up (va_up (va_up J 0 (upd (J 0) n (nI 2))) 1 (upd ((va_up J 0 (upd (J 0) n (nI 2))) 1) n (nI j))) 2 (upd ((va_up (va_up J 0 (upd (J 0) n (nI 2))) 1 (upd ((va_up J 0 (upd (J 0) n (nI 2))) 1) n (nI j))) 2) n (nI h))) n v kn pr ar X) := hD
          refine lv_aload_n hx hb d_MM_answers_68 rfl (lv_at hl 0 rfl) ?_
          refine lv_aload_n hx hb d_MM_answers_69 rfl (lv_at hl 0 rfl) ?_
          refine va_get (D := g.1) (own := R_MM) (ref := R_MM) (ci := 5) (v := .int (nI n)) (C := R_MM) (T := F_MM) (N := 16) hx hb hts in_MM hown hG.1 hP 0 rfl rfl 0 (by decide) (hts _ wd_383) (fun _ h9 => h9) rfl d_MM_answers_70 ?_
          refine lv_iconst (v := nI 1) hx hb d_MM_answers_73 (by decide) ?_
          refine lv_iadd hx hb d_MM_answers_74 ?_
          refine mt_ri (y := nI (n + 1)) (nI_add _ _) ?_
          refine gc_cwv (va_runV (own := R_MM) (As := [.int (nI (n + 1))]) (rest := []) ⟨hx, hb, hml, hown, hts⟩ (c_MM_work (l := l) (g := g) (md := md) (J := va_up (va_up (va_up J 0 (upd (J 0) n (nI 2))) 1 (upd ((va_up J 0 (upd (J 0) n (nI 2))) 1) n (nI j))) 2 (upd ((va_up (va_up J 0 (upd (J 0) n (nI 2))) 1 (upd ((va_up J 0 (upd (J 0) n (nI 2))) 1) n (nI j))) 2) n (nI h))) (n := n) (v := v) (kn := kn) (pr := pr) (ar := ar) (X := X) (k := (va_up k n 2)) (a := (va_up a n j)) (b := (va_up b n h)) (nn := n + 1) (mt_MT_3 hT) (by omega) (mt_wf_add hw (by decide) (fun _ _ => ⟨hlt_j, hlt_h⟩) (by omega) (by omega)) (by omega) (fun h9 => absurd h9 (by omega))) (cwV 1 hts (gx_goodV wd_484 wd_486 ws_16 wd_7 wd_487) rfl rfl rfl (by decide +kernel) ⟨Nat.le_of_ble_eq_true rfl, Nat.le_of_ble_eq_true rfl⟩) (gc_preVW (gc_recv hP hG (ci := 5) rfl (q0 := 0) rfl) hP hG hD) rfl rfl hl.1 rfl (lv_room (Nat.le_of_ble_eq_true rfl)) d_MM_answers_75 ⟨Nat.le_refl _, Nat.le_refl _⟩) hD hS (fun u75 H locs hu75 hP hD hS => ?_)
          obtain ⟨P75, kn75, pr75, ar75, X75⟩ := u75
          obtain ⟨hkn75, hK75⟩ := hu75
          dsimp only at hkn75 hK75 hP hD
          rw [hkn75] at hP hD
          have hP : va_P g.1 gx_cl (mW g md (va_up (va_up (va_up (va_up J 0 (upd (J 0) n (nI 2))) 1 (upd ((va_up J 0 (upd (J 0) n (nI 2))) 1) n (nI j))) 2 (upd ((va_up (va_up J 0 (upd (J 0) n (nI 2))) 1 (upd ((va_up J 0 (upd (J 0) n (nI 2))) 1) n (nI j))) 2) n (nI h))) 9 P75) n v (n + 1) pr75 ar75 X75) H := hP
          have hD : va_D (gx_in (mW g md J n v kn pr ar X)) (mW g md (va_up (va_up (va_up (va_up J 0 (upd (J 0) n (nI 2))) 1 (upd ((va_up J 0 (upd (J 0) n (nI 2))) 1) n (nI j))) 2 (upd ((va_up (va_up J 0 (upd (J 0) n (nI 2))) 1 (upd ((va_up J 0 (upd (J 0) n (nI 2))) 1) n (nI j))) 2) n (nI h))) 9 P75) n v (n + 1) pr75 ar75 X75) := hD
          refine lv_aload_n hx hb d_MM_answers_78 rfl (lv_at hl 0 rfl) ?_
          refine lv_iload_n hx hb d_MM_answers_79 rfl (lv_at hl 1 rfl) ?_
          refine mt_ri (y := nI i) hxi_i.2 ?_
          refine lv_aload_n hx hb d_MM_answers_80 rfl (lv_at hl 0 rfl) ?_
          refine va_get (D := g.1) (own := R_MM) (ref := R_MM) (ci := 5) (v := .int (nI n)) (C := R_MM) (T := F_MM) (N := 16) hx hb hts in_MM hown hG.1 hP 0 rfl rfl 0 (by decide) (hts _ wd_383) (fun _ h9 => h9) rfl d_MM_answers_81 ?_
          refine vp_callSi (va_runV (own := R_MM) (As := [.int (nI i), .int (nI n)]) (rest := []) ⟨hx, hb, hml, hown, hts⟩ (c_MM_lies (l := l) (g := g) (md := md) (J := va_up (va_up (va_up (va_up J 0 (upd (J 0) n (nI 2))) 1 (upd ((va_up J 0 (upd (J 0) n (nI 2))) 1) n (nI j))) 2 (upd ((va_up (va_up J 0 (upd (J 0) n (nI 2))) 1 (upd ((va_up J 0 (upd (J 0) n (nI 2))) 1) n (nI j))) 2) n (nI h))) 9 P75) (n := n) (v := v) (kn := n + 1) (pr := pr75) (ar := ar75) (X := X75) (i := i) (j := n) (by omega) (by omega)) (cwV 2 hts (gx_goodV wd_540 wd_542 ws_29 wd_7 wd_543) rfl rfl rfl (by decide +kernel) ⟨Nat.le_of_ble_eq_true rfl, Nat.le_of_ble_eq_true rfl⟩) (gc_preV (gc_recv hP hG (ci := 5) rfl (q0 := 0) rfl) hP hG) rfl rfl hl.1 rfl (lv_room (Nat.le_of_ble_eq_true rfl)) d_MM_answers_84 ⟨Nat.le_refl _, Nat.le_refl _⟩).run (fun r hr84 => ?_)
          obtain ⟨z84, hq84, hz84⟩ := hr84
          subst hq84
          refine lv_istore (lv' := [(4, .int (mt_b z84)), (0, .ref (md 0)), (1, .int x), (2, .int y), (3, .int o)]) hx hb d_MM_answers_87 hl (by decide) rfl (fun ls hl => ?_)
          refine lv_aload_n hx hb d_MM_answers_89 rfl (lv_at hl 1 rfl) ?_
          refine lv_iconst (v := nI 0) hx hb d_MM_answers_90 (by decide) ?_
          refine va_put (D := g.1) (own := R_MM) (ref := R_MM) (ci := 5) (v := .int (nI 0)) (ty := .int) (C := R_MM) (T := F_MM) (N := 16) hx hb hts in_MM t_MM t_MM_ok n_MM hown hG.1 hP hD hS 0 rfl rfl 12 (by decide) (hts _ wd_395) (fun _ h9 => h9) rfl (by decide +kernel) rfl rfl (Nat.le_of_ble_eq_true rfl) d_MM_answers_91 (fun H locs hP hD hS => ?_)
          have hP : va_P g.1 gx_cl (mW g md (va_up (va_up (va_up (va_up J 0 (upd (J 0) n (nI 2))) 1 (upd ((va_up J 0 (upd (J 0) n (nI 2))) 1) n (nI j))) 2 (upd ((va_up (va_up J 0 (upd (J 0) n (nI 2))) 1 (upd ((va_up J 0 (upd (J 0) n (nI 2))) 1) n (nI j))) 2) n (nI h))) 9 P75) n v 0 pr75 ar75 X75) H := hP
          have hD : va_D (gx_in (mW g md J n v kn pr ar X)) (mW g md (va_up (va_up (va_up (va_up J 0 (upd (J 0) n (nI 2))) 1 (upd ((va_up J 0 (upd (J 0) n (nI 2))) 1) n (nI j))) 2 (upd ((va_up (va_up J 0 (upd (J 0) n (nI 2))) 1 (upd ((va_up J 0 (upd (J 0) n (nI 2))) 1) n (nI j))) 2) n (nI h))) 9 P75) n v 0 pr75 ar75 X75) := hD
          refine lv_iload hx hb d_MM_answers_94 (lv_at hl 0 rfl) ?_
          exact gc_retwz (u := (va_up (va_up (va_up (va_up J 0 (upd (J 0) n (nI 2))) 1 (upd ((va_up J 0 (upd (J 0) n (nI 2))) 1) n (nI j))) 2 (upd ((va_up (va_up J 0 (upd (J 0) n (nI 2))) 1 (upd ((va_up J 0 (upd (J 0) n (nI 2))) 1) n (nI j))) 2) n (nI h))) 9 P75, n, v, 0, pr75, ar75, X75)) (v := z84) (Wf := fun (u : gMS) => mW g md u.1 u.2.1 u.2.2.1 u.2.2.2.1 u.2.2.2.2.1 u.2.2.2.2.2.1 u.2.2.2.2.2.2) (post := fun r (u : gMS) => sp_ans (n, k, a, b, dp, fc) x y o r ∧ mt_MR u (n, k, a, b, dp, fc) (v, vk, va, vb, vl)) hx hb hr hlk (⟨⟨z84, rfl, (fun h9 => ⟨i, j, h, hxi_i, hxi_j, hxi_h, by rw [mt_dd_k2]; exact hc33, (hz84.trans (mt_lies_of13 hK75.2 (by omega))).mp h9⟩), (fun ⟨i9, j9, h8, h1, h2, h3, _, h4⟩ => by have e0 := sp_is_inj (show n ≤ 100 by omega) h1 hxi_i; have e1 := sp_is_inj (show n ≤ 100 by omega) h2 hxi_j; have e2 := sp_is_inj (show n ≤ 100 by omega) h3 hxi_h; subst e0; subst e1; subst e2; exact (hz84.trans (mt_lies_of13 hK75.2 (by omega))).mpr h4)⟩, mt_MR_ans hM⟩) hP hD hS d_MM_answers_96
        · ---- 5F 13F 21F 33F
          refine lv_iconst (v := nI 0) hx hb d_MM_answers_36 (by decide) ?_
          exact gc_retwz (u := (J, n, v, kn, pr, ar, X)) (v := false) (Wf := fun (u : gMS) => mW g md u.1 u.2.1 u.2.2.1 u.2.2.2.1 u.2.2.2.2.1 u.2.2.2.2.2.1 u.2.2.2.2.2.2) (post := fun r (u : gMS) => sp_ans (n, k, a, b, dp, fc) x y o r ∧ mt_MR u (n, k, a, b, dp, fc) (v, vk, va, vb, vl)) hx hb hr hlk (⟨⟨false, rfl, (fun h => by cases h), (fun ⟨i9, j9, h8, h1, h2, h3, h4, _⟩ => by have e0 := sp_is_inj (show n ≤ 100 by omega) h1 hxi_i; have e1 := sp_is_inj (show n ≤ 100 by omega) h2 hxi_j; have e2 := sp_is_inj (show n ≤ 100 by omega) h3 hxi_h; subst e0; subst e1; subst e2; rw [mt_dd_k2] at h4; exact absurd h4 (Nat.not_le.mpr hc33))⟩, hM⟩) hP hD hS d_MM_answers_37
