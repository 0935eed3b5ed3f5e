set_option maxHeartbeats 4000000 in
set_option maxRecDepth 100000 in
theorem c_MM_sortRows0 {g : gG} {md : Nat → Nat} {J : Nat → Nat → Int32} {n v kn pr ar : Nat} {X : Nat → Int64} {k a b : Nat → Nat} {vk va vb vl : Nat → Nat} {vi : Nat} {l : Launch} (hT : mt_MT J n k a b) (hn12 : n ≤ 12) (hw : mt_wf k a b n) (hN : mt_NU J pr ar n k) (hR0 : ∀ z, z < 8192 → (mt_ms X 0 z = true ↔ mt_R k a b n z)) (hv20 : v ≤ 20) (hV : mt_MV J v vk va vb vl) (hvw : mt_vw n v vk va vb vl) (hvi : vi < v) (hva : ∀ c, c < vi → ∀ z, z < 8192 → (mt_ms X (7 + c) z = true ↔ mt_V k a b vk va vb n 4 c z)) (hkv : vk vi = 0) :
    gc_RV (S := Nat → Int64) l y_MM_sortRows (gx_ws y_MM_sortRows b_MM_sortRows 4 none) 3 85 g [.ref (md 0), .int (nI vi)] (mW g md J n v kn pr ar X) (fun (u : Nat → Int64) => mW g md J n v kn pr ar u) (fun (u : Nat → Int64) => mt_fl (7 + vi) X u (fun z => mt_V k a b vk va vb n 4 vi z)) := by
  refine gx_body (by decide) (Nat.le_of_ble_eq_true rfl) ?_
  intro p e s m below meth c ls hAt hB hl
  obtain ⟨hx, hb, hml, hown, hts, hr, hlk, hnm⟩ := hAt
  have hown : s.vm.findClass R_MM = some m.cls := hown
  obtain ⟨⟨hP, hG⟩, hD0⟩ := hB
  have hD := gx_D.self hD0
  have hS : va_S (gx_in (mW g md J n v kn pr ar X)) s.heap s.heap [] := va_S.rf
  have hl : lv_has ls 4 [(0, .ref (md 0)), (1, .int (nI vi))] := hl
  have hvw1 := hvw vi hvi
  have hva0 := hvw1.2.1 hkv
  refine lv_sipush (v := nI 896) hx hb d_MM_sortRows_0 (by decide) ?_
  refine lv_sipush (v := nI 128) hx hb d_MM_sortRows_3 (by decide) ?_
  refine lv_iload_n hx hb d_MM_sortRows_6 rfl (lv_at hl 1 rfl) ?_
  refine lv_imul hx hb d_MM_sortRows_7 ?_
  refine mt_ri (y := nI (128 * vi)) (pk_mul _ _) ?_
  refine lv_iadd hx hb d_MM_sortRows_8 ?_
  refine mt_ri (y := nI (896 + (128 * vi))) (nI_add _ _) ?_
  refine lv_istore_n (lv' := [(2, .int (nI (896 + (128 * vi)))), (0, .ref (md 0)), (1, .int (nI vi))]) hx hb d_MM_sortRows_9 rfl hl (by decide) rfl (fun ls hl => ?_)
  refine lv_aload_n hx hb d_MM_sortRows_10 rfl (lv_at hl 1 rfl) ?_
  refine lv_iload_n hx hb d_MM_sortRows_11 rfl (lv_at hl 0 rfl) ?_
  refine gc_cwv (va_runV (own := R_MM) (As := [.int (nI (896 + (128 * vi)))]) (rest := []) ⟨hx, hb, hml, hown, hts⟩ (c_MM_clear (l := l) (g := g) (md := md) (J := J) (n := n) (v := v) (kn := kn) (pr := pr) (ar := ar) (X := X) (s0 := 896 + (128 * vi)) (cc := 7 + vi) (by omega) (by omega)) (cwV 1 hts (gx_goodV wd_492 wd_494 ws_18 wd_7 wd_495) rfl rfl rfl (by decide +kernel) ⟨Nat.le_of_ble_eq_true rfl, Nat.le_of_ble_eq_true rfl⟩) (gc_preVW (gc_recv hP hG (ci := 5) rfl (q0 := 0) rfl) hP hG hD) rfl rfl hl.1 rfl (lv_room (Nat.le_of_ble_eq_true rfl)) d_MM_sortRows_12 ⟨Nat.le_refl _, Nat.le_refl _⟩) hD hS (fun X12 H locs hx12 hP hD hS => ?_)
  have hP : va_P g.1 gx_cl (mW g md J n v kn pr ar X12) H := hP
  have hD : va_D (gx_in (mW g md J n v kn pr ar X)) (mW g md J n v kn pr ar X12) := hD
  refine lv_aload_n hx hb d_MM_sortRows_15 rfl (lv_at hl 1 rfl) ?_
  refine va_get (D := g.1) (own := R_MM) (ref := R_MM) (ci := 5) (v := .ref (md 6)) (C := R_MM) (T := F_MM) (N := 16) hx hb hts in_MM hown hG.1 hP 0 rfl rfl 7 (by decide) (hts _ wd_390) (fun _ h9 => h9) rfl d_MM_sortRows_16 ?_
  refine lv_iload_n hx hb d_MM_sortRows_19 rfl (lv_at hl 2 rfl) ?_
  refine va_iald hx hb hG.1 hP 6 0 rfl rfl (vp_in_nI (by omega) (by decide)) d_MM_sortRows_20 ?_
  refine mt_ri (y := nI (vk vi)) (by rw [nI_clamp (by omega)]; exact (hV _ (by omega)).1) ?_
  refine mt_ri (y := nI 0) (by rw [hkv]) ?_
  refine lv_if_ne (tgt := 45) hx hb d_MM_sortRows_21 (by decide) (fun h9 => absurd h9 (by decide)) (fun _ => ?_)
  refine lv_aload_n hx hb d_MM_sortRows_24 rfl (lv_at hl 1 rfl) ?_
  refine lv_iload_n hx hb d_MM_sortRows_25 rfl (lv_at hl 0 rfl) ?_
  refine lv_aload_n hx hb d_MM_sortRows_26 rfl (lv_at hl 1 rfl) ?_
  refine lv_aload_n hx hb d_MM_sortRows_27 rfl (lv_at hl 1 rfl) ?_
  refine va_get (D := g.1) (own := R_MM) (ref := R_MM) (ci := 5) (v := .int (nI n)) (C := R_MM) (T := F_MM) (N := 16) hx hb hts in_MM hown hG.1 hP 0 rfl rfl 0 (by decide) (hts _ wd_383) (fun _ h9 => h9) rfl d_MM_sortRows_28 ?_
  refine lv_iconst (v := nI 0) hx hb d_MM_sortRows_31 (by decide) ?_
  refine lv_aload_n hx hb d_MM_sortRows_32 rfl (lv_at hl 1 rfl) ?_
  refine va_get (D := g.1) (own := R_MM) (ref := R_MM) (ci := 5) (v := .ref (md 7)) (C := R_MM) (T := F_MM) (N := 16) hx hb hts in_MM hown hG.1 hP 0 rfl rfl 8 (by decide) (hts _ wd_391) (fun _ h9 => h9) rfl d_MM_sortRows_33 ?_
  refine lv_iload_n hx hb d_MM_sortRows_36 rfl (lv_at hl 2 rfl) ?_
  refine va_iald hx hb hG.1 hP 7 0 rfl rfl (vp_in_nI (by omega) (by decide)) d_MM_sortRows_37 ?_
  refine mt_ri (y := nI (va vi)) (by rw [nI_clamp (by omega)]; exact (hV _ (by omega)).2.1) ?_
  refine vp_callSi (va_runV (own := R_MM) (As := [.int (nI n), .int (nI 0), .int (nI (va vi))]) (rest := [.int (nI (896 + (128 * vi))), .ref (md 0)]) ⟨hx, hb, hml, hown, hts⟩ (c_MM_rowOf0 (l := l) (g := g) (md := md) (J := J) (n := n) (v := v) (kn := kn) (pr := pr) (ar := ar) (X := X12) (k := k) (a := a) (b := b) (nn := n) (wh := va vi) hT (by omega) hw (by omega)) (cwV 3 hts (gx_goodV wd_508 wd_510 ws_22 wd_7 wd_511) rfl rfl rfl (by decide +kernel) ⟨Nat.le_of_ble_eq_true rfl, Nat.le_of_ble_eq_true rfl⟩) (gc_preV (gc_recv hP hG (ci := 5) rfl (q0 := 0) rfl) hP hG) rfl rfl hl.1 rfl (lv_room (Nat.le_of_ble_eq_true rfl)) d_MM_sortRows_38 ⟨Nat.le_refl _, Nat.le_refl _⟩).run (fun r hr38 => ?_)
  subst hr38
  refine gc_cwi (va_runV (own := R_MM) (As := [.int (nI (896 + (128 * vi))), .int (nI (mt_pf k a b (mt_rc k a (va vi)) n))]) (rest := []) ⟨hx, hb, hml, hown, hts⟩ (c_MM_put (l := l) (g := g) (md := md) (J := J) (n := n) (v := v) (kn := kn) (pr := pr) (ar := ar) (X := X12) (s0 := 896 + (128 * vi)) (cc := 7 + vi) (i := mt_pf k a b (mt_rc k a (va vi)) n) (by omega) (by omega) (by exact mt_lt13 (mt_pf_lt _ _ _ _ _) (by omega))) (cwV 2 hts (gx_goodV wd_496 wd_498 ws_19 wd_7 wd_499) rfl rfl rfl (by decide +kernel) ⟨Nat.le_of_ble_eq_true rfl, Nat.le_of_ble_eq_true rfl⟩) (gc_preVW (gc_recv hP hG (ci := 5) rfl (q0 := 0) rfl) hP hG hD) rfl rfl hl.1 rfl (lv_room (Nat.le_of_ble_eq_true rfl)) d_MM_sortRows_41 ⟨Nat.le_refl _, Nat.le_refl _⟩) hD hS (fun r41 X41 H locs hr41 hP hD hS => ?_)
  obtain ⟨hr41, hx41⟩ := hr41
  subst hr41
  have hP : va_P g.1 gx_cl (mW g md J n v kn pr ar X41) H := hP
  have hD : va_D (gx_in (mW g md J n v kn pr ar X)) (mW g md J n v kn pr ar X41) := hD
  refine lv_pop hx hb d_MM_sortRows_44 rfl ?_
  refine lv_iconst (v := nI 0) hx hb d_MM_sortRows_45 (by decide) ?_
  refine lv_istore_n (lv' := [(3, .int (nI 0)), (2, .int (nI (896 + (128 * vi)))), (0, .ref (md 0)), (1, .int (nI vi))]) hx hb d_MM_sortRows_46 rfl hl (by decide) rfl (fun ls hl => ?_)
  have lp47 : ∀ (d : Nat) (q : Nat) (X1 : Nat → Int64) (ls : Array Slot) (H : Heap) (locs : List Loc), d = 4096 - q → (q ≤ 4096) → (mt_fl (7 + vi) X X1 (fun z => False ∨ z = mt_pf k a b (mt_rc k a (va vi)) n)) → lv_has ls 4 [(3, .int (nI q)), (0, .ref (md 0)), (1, .int (nI vi)), (2, .int (nI (896 + (128 * vi))))] → va_P g.1 gx_cl (mW g md J n v kn pr ar X1) H → va_D (gx_in (mW g md J n v kn pr ar X)) (mW g md J n v kn pr ar X1) → va_S (gx_in (mW g md J n v kn pr ar X)) s.heap H locs → W p l e (gx_rm 3 85) s m ([.ref (md 0), .int (nI vi)] : List Value).toArray below meth c H locs 0 0 (MQ below (va_Qv (fun (u : Nat → Int64) => mt_fl (7 + vi) X u (fun z => mt_V k a b vk va vb n 4 vi z)) (fun u9 t9 => va_P g.1 gx_cl ((fun (u : Nat → Int64) => mW g md J n v kn pr ar u) u9) t9.heap ∧ va_D (gx_in (mW g md J n v kn pr ar X)) ((fun (u : Nat → Int64) => mW g md J n v kn pr ar u) u9)) (gx_in (mW g md J n v kn pr ar X))) ([.ref (md 0), .int (nI vi)] : List Value).toArray s 0 0 (gx_in (mW g md J n v kn pr ar X))) (F0 m 47 ls []) := by
    intro d
    induction d using Nat.strongRecOn with
    | ind d ih47 =>
    intro q X1 ls H locs hd hq hfl1 hl hP hD hS
    refine lv_iload_n hx hb d_MM_sortRows_47 rfl (lv_at hl 0 rfl) ?_
    refine lv_sipush (v := nI 4096) hx hb d_MM_sortRows_48 (by decide) ?_
    refine lv_icmp_ge (tgt := 162) hx hb d_MM_sortRows_51 (by decide) (mt_le (by omega) (by omega) fun hc51 => ?_) (mt_nle (by omega) (by omega) fun hc51 => ?_)
    · ---- 51T
      exact gc_retv (u := (X1)) (Wf := fun (u : Nat → Int64) => mW g md J n v kn pr ar u) (post := fun (u : Nat → Int64) => mt_fl (7 + vi) X u (fun z => mt_V k a b vk va vb n 4 vi z)) hx hb hr hlk (mt_fl_c hfl1 (mt_sr0 hkv)) hP hD hS d_MM_sortRows_162
    · ---- 51F
      refine lv_aload_n hx hb d_MM_sortRows_54 rfl (lv_at hl 1 rfl) ?_
      refine va_get (D := g.1) (own := R_MM) (ref := R_MM) (ci := 5) (v := .ref (md 6)) (C := R_MM) (T := F_MM) (N := 16) hx hb hts in_MM hown hG.1 hP 0 rfl rfl 7 (by decide) (hts _ wd_390) (fun _ h9 => h9) rfl d_MM_sortRows_55 ?_
      refine lv_iload_n hx hb d_MM_sortRows_58 rfl (lv_at hl 2 rfl) ?_
      refine va_iald hx hb hG.1 hP 6 0 rfl rfl (vp_in_nI (by omega) (by decide)) d_MM_sortRows_59 ?_
      refine mt_ri (y := nI (vk vi)) (by rw [nI_clamp (by omega)]; exact (hV _ (by omega)).1) ?_
      refine mt_ri (y := nI 0) (by rw [hkv]) ?_
      refine lv_iconst (v := nI 2) hx hb d_MM_sortRows_60 (by decide) ?_
      refine lv_icmp_ne (tgt := 94) hx hb d_MM_sortRows_61 (by decide) (fun _ => ?_) (fun h9 => absurd h9 (by decide))
      refine lv_aload_n hx hb d_MM_sortRows_94 rfl (lv_at hl 1 rfl) ?_
      refine va_get (D := g.1) (own := R_MM) (ref := R_MM) (ci := 5) (v := .ref (md 6)) (C := R_MM) (T := F_MM) (N := 16) hx hb hts in_MM hown hG.1 hP 0 rfl rfl 7 (by decide) (hts _ wd_390) (fun _ h9 => h9) rfl d_MM_sortRows_95 ?_
      refine lv_iload_n hx hb d_MM_sortRows_98 rfl (lv_at hl 2 rfl) ?_
      refine va_iald hx hb hG.1 hP 6 0 rfl rfl (vp_in_nI (by omega) (by decide)) d_MM_sortRows_99 ?_
      refine mt_ri (y := nI (vk vi)) (by rw [nI_clamp (by omega)]; exact (hV _ (by omega)).1) ?_
      refine mt_ri (y := nI 0) (by rw [hkv]) ?_
      refine lv_iconst (v := nI 1) hx hb d_MM_sortRows_100 (by decide) ?_
      refine lv_icmp_ne (tgt := 156) hx hb d_MM_sortRows_101 (by decide) (fun _ => ?_) (fun h9 => absurd h9 (by decide))
      refine lv_iinc (k := 0) (v := nI (q + 1)) (lv' := [(3, .int (nI (q + 1))), (0, .ref (md 0)), (1, .int (nI vi)), (2, .int (nI (896 + (128 * vi))))]) hx hb d_MM_sortRows_156 hl rfl (by rw [lit1]; exact nI_1 _) (by decide) rfl (fun ls hl => ?_)
      refine lv_goto (tgt := 47) hx hb d_MM_sortRows_159 (by decide) ?_
      exact ih47 _ (by omega) (q + 1) X1 ls _ _ rfl (by omega) (hfl1) (lv_sub hl [0, 1, 2, 3] rfl) hP hD hS
  exact lp47 _ 0 X41 ls _ _ rfl (Nat.zero_le _) (mt_fl_p (mt_fl_0 hx12) hx41) (lv_sub hl [0, 2, 3, 1] rfl) hP hD hS

set_option maxHeartbeats 4000000 in
set_option maxRecDepth 100000 in
theorem c_MM_sortRows1 {g : gG} {md : Nat → Nat} {J : Nat → Nat → Int32} {n v kn pr ar : Nat} {X : Nat → Int64} {k a b : Nat → Nat} {vk va vb vl : Nat → Nat} {vi : Nat} {l : Launch} (hT : mt_MT J n k a b) (hn12 : n ≤ 12) (hw : mt_wf k a b n) (hN : mt_NU J pr ar n k) (hR0 : ∀ z, z < 8192 → (mt_ms X 0 z = true ↔ mt_R k a b n z)) (hv20 : v ≤ 20) (hV : mt_MV J v vk va vb vl) (hvw : mt_vw n v vk va vb vl) (hvi : vi < v) (hva : ∀ c, c < vi → ∀ z, z < 8192 → (mt_ms X (7 + c) z = true ↔ mt_V k a b vk va vb n 4 c z)) (hkv : vk vi = 1) :
    gc_RV (S := Nat → Int64) l y_MM_sortRows (gx_ws y_MM_sortRows b_MM_sortRows 4 none) 3 85 g [.ref (md 0), .int (nI vi)] (mW g md J n v kn pr ar X) (fun (u : Nat → Int64) => mW g md J n v kn pr ar u) (fun (u : Nat → Int64) => mt_fl (7 + vi) X u (fun z => mt_V k a b vk va vb n 4 vi z)) := by
  refine gx_body (by decide) (Nat.le_of_ble_eq_true rfl) ?_
  intro p e s m below meth c ls hAt hB hl
  obtain ⟨hx, hb, hml, hown, hts, hr, hlk, hnm⟩ := hAt
  have hown : s.vm.findClass R_MM = some m.cls := hown
  obtain ⟨⟨hP, hG⟩, hD0⟩ := hB
  have hD := gx_D.self hD0
  have hS : va_S (gx_in (mW g md J n v kn pr ar X)) s.heap s.heap [] := va_S.rf
  have hl : lv_has ls 4 [(0, .ref (md 0)), (1, .int (nI vi))] := hl
  have hvw1 := hvw vi hvi
  have hva1 := hvw1.2.2.1 hkv
  refine lv_sipush (v := nI 896) hx hb d_MM_sortRows_0 (by decide) ?_
  refine lv_sipush (v := nI 128) hx hb d_MM_sortRows_3 (by decide) ?_
  refine lv_iload_n hx hb d_MM_sortRows_6 rfl (lv_at hl 1 rfl) ?_
  refine lv_imul hx hb d_MM_sortRows_7 ?_
  refine mt_ri (y := nI (128 * vi)) (pk_mul _ _) ?_
  refine lv_iadd hx hb d_MM_sortRows_8 ?_
  refine mt_ri (y := nI (896 + (128 * vi))) (nI_add _ _) ?_
  refine lv_istore_n (lv' := [(2, .int (nI (896 + (128 * vi)))), (0, .ref (md 0)), (1, .int (nI vi))]) hx hb d_MM_sortRows_9 rfl hl (by decide) rfl (fun ls hl => ?_)
  refine lv_aload_n hx hb d_MM_sortRows_10 rfl (lv_at hl 1 rfl) ?_
  refine lv_iload_n hx hb d_MM_sortRows_11 rfl (lv_at hl 0 rfl) ?_
  refine gc_cwv (va_runV (own := R_MM) (As := [.int (nI (896 + (128 * vi)))]) (rest := []) ⟨hx, hb, hml, hown, hts⟩ (c_MM_clear (l := l) (g := g) (md := md) (J := J) (n := n) (v := v) (kn := kn) (pr := pr) (ar := ar) (X := X) (s0 := 896 + (128 * vi)) (cc := 7 + vi) (by omega) (by omega)) (cwV 1 hts (gx_goodV wd_492 wd_494 ws_18 wd_7 wd_495) rfl rfl rfl (by decide +kernel) ⟨Nat.le_of_ble_eq_true rfl, Nat.le_of_ble_eq_true rfl⟩) (gc_preVW (gc_recv hP hG (ci := 5) rfl (q0 := 0) rfl) hP hG hD) rfl rfl hl.1 rfl (lv_room (Nat.le_of_ble_eq_true rfl)) d_MM_sortRows_12 ⟨Nat.le_refl _, Nat.le_refl _⟩) hD hS (fun X12 H locs hx12 hP hD hS => ?_)
  have hP : va_P g.1 gx_cl (mW g md J n v kn pr ar X12) H := hP
  have hD : va_D (gx_in (mW g md J n v kn pr ar X)) (mW g md J n v kn pr ar X12) := hD
  refine lv_aload_n hx hb d_MM_sortRows_15 rfl (lv_at hl 1 rfl) ?_
  refine va_get (D := g.1) (own := R_MM) (ref := R_MM) (ci := 5) (v := .ref (md 6)) (C := R_MM) (T := F_MM) (N := 16) hx hb hts in_MM hown hG.1 hP 0 rfl rfl 7 (by decide) (hts _ wd_390) (fun _ h9 => h9) rfl d_MM_sortRows_16 ?_
  refine lv_iload_n hx hb d_MM_sortRows_19 rfl (lv_at hl 2 rfl) ?_
  refine va_iald hx hb hG.1 hP 6 0 rfl rfl (vp_in_nI (by omega) (by decide)) d_MM_sortRows_20 ?_
  refine mt_ri (y := nI (vk vi)) (by rw [nI_clamp (by omega)]; exact (hV _ (by omega)).1) ?_
  refine mt_ri (y := nI 1) (by rw [hkv]) ?_
  refine lv_if_ne (tgt := 45) hx hb d_MM_sortRows_21 (by decide) (fun _ => ?_) (fun h9 => absurd h9 (by decide))
  refine lv_iconst (v := nI 0) hx hb d_MM_sortRows_45 (by decide) ?_
  refine lv_istore_n (lv' := [(3, .int (nI 0)), (2, .int (nI (896 + (128 * vi)))), (0, .ref (md 0)), (1, .int (nI vi))]) hx hb d_MM_sortRows_46 rfl hl (by decide) rfl (fun ls hl => ?_)
  have lp47 : ∀ (d : Nat) (q : Nat) (X1 : Nat → Int64) (ls : Array Slot) (H : Heap) (locs : List Loc), d = 4096 - q → (q ≤ 4096) → (mt_fl (7 + vi) X X1 (fun z => False ∨ ∃ x, x < q ∧ mt_ms X (7 + va vi) x = true ∧ ∃ y, y < 4096 ∧ mt_ms X (7 + vb vi) y = true ∧ z = mt_pf k a b (fun t => k t == 1 && Nat.testBit (mt_cz k 1 (fun t => Nat.testBit x (a t)) n &&& mt_cz k 1 (fun t => Nat.testBit y (b t)) n) (mt_pl k t)) n)) → lv_has ls 4 [(3, .int (nI q)), (0, .ref (md 0)), (1, .int (nI vi)), (2, .int (nI (896 + (128 * vi))))] → va_P g.1 gx_cl (mW g md J n v kn pr ar X1) H → va_D (gx_in (mW g md J n v kn pr ar X)) (mW g md J n v kn pr ar X1) → va_S (gx_in (mW g md J n v kn pr ar X)) s.heap H locs → W p l e (gx_rm 3 85) s m ([.ref (md 0), .int (nI vi)] : List Value).toArray below meth c H locs 0 0 (MQ below (va_Qv (fun (u : Nat → Int64) => mt_fl (7 + vi) X u (fun z => mt_V k a b vk va vb n 4 vi z)) (fun u9 t9 => va_P g.1 gx_cl ((fun (u : Nat → Int64) => mW g md J n v kn pr ar u) u9) t9.heap ∧ va_D (gx_in (mW g md J n v kn pr ar X)) ((fun (u : Nat → Int64) => mW g md J n v kn pr ar u) u9)) (gx_in (mW g md J n v kn pr ar X))) ([.ref (md 0), .int (nI vi)] : List Value).toArray s 0 0 (gx_in (mW g md J n v kn pr ar X))) (F0 m 47 ls []) := by
    intro d
    induction d using Nat.strongRecOn with
    | ind d ih47 =>
    intro q X1 ls H locs hd hq hfl1 hl hP hD hS
    refine lv_iload_n hx hb d_MM_sortRows_47 rfl (lv_at hl 0 rfl) ?_
    refine lv_sipush (v := nI 4096) hx hb d_MM_sortRows_48 (by decide) ?_
    refine lv_icmp_ge (tgt := 162) hx hb d_MM_sortRows_51 (by decide) (mt_le (by omega) (by omega) fun hc51 => ?_) (mt_nle (by omega) (by omega) fun hc51 => ?_)
    · ---- 51T
      exact gc_retv (u := (X1)) (Wf := fun (u : Nat → Int64) => mW g md J n v kn pr ar u) (post := fun (u : Nat → Int64) => mt_fl (7 + vi) X u (fun z => mt_V k a b vk va vb n 4 vi z)) hx hb hr hlk (by rw [show q = 4096 by omega] at hfl1; exact mt_fl_c hfl1 (mt_sr1 hkv hn12 hvw hvi hva)) hP hD hS d_MM_sortRows_162
    · ---- 51F
      refine lv_aload_n hx hb d_MM_sortRows_54 rfl (lv_at hl 1 rfl) ?_
      refine va_get (D := g.1) (own := R_MM) (ref := R_MM) (ci := 5) (v := .ref (md 6)) (C := R_MM) (T := F_MM) (N := 16) hx hb hts in_MM hown hG.1 hP 0 rfl rfl 7 (by decide) (hts _ wd_390) (fun _ h9 => h9) rfl d_MM_sortRows_55 ?_
      refine lv_iload_n hx hb d_MM_sortRows_58 rfl (lv_at hl 2 rfl) ?_
      refine va_iald hx hb hG.1 hP 6 0 rfl rfl (vp_in_nI (by omega) (by decide)) d_MM_sortRows_59 ?_
      refine mt_ri (y := nI (vk vi)) (by rw [nI_clamp (by omega)]; exact (hV _ (by omega)).1) ?_
      refine mt_ri (y := nI 1) (by rw [hkv]) ?_
      refine lv_iconst (v := nI 2) hx hb d_MM_sortRows_60 (by decide) ?_
      refine lv_icmp_ne (tgt := 94) hx hb d_MM_sortRows_61 (by decide) (fun _ => ?_) (fun h9 => absurd h9 (by decide))
      refine lv_aload_n hx hb d_MM_sortRows_94 rfl (lv_at hl 1 rfl) ?_
      refine va_get (D := g.1) (own := R_MM) (ref := R_MM) (ci := 5) (v := .ref (md 6)) (C := R_MM) (T := F_MM) (N := 16) hx hb hts in_MM hown hG.1 hP 0 rfl rfl 7 (by decide) (hts _ wd_390) (fun _ h9 => h9) rfl d_MM_sortRows_95 ?_
      refine lv_iload_n hx hb d_MM_sortRows_98 rfl (lv_at hl 2 rfl) ?_
      refine va_iald hx hb hG.1 hP 6 0 rfl rfl (vp_in_nI (by omega) (by decide)) d_MM_sortRows_99 ?_
      refine mt_ri (y := nI (vk vi)) (by rw [nI_clamp (by omega)]; exact (hV _ (by omega)).1) ?_
      refine mt_ri (y := nI 1) (by rw [hkv]) ?_
      refine lv_iconst (v := nI 1) hx hb d_MM_sortRows_100 (by decide) ?_
      refine lv_icmp_ne (tgt := 156) hx hb d_MM_sortRows_101 (by decide) (fun h9 => absurd h9 (by decide)) (fun _ => ?_)
      refine lv_aload_n hx hb d_MM_sortRows_104 rfl (lv_at hl 1 rfl) ?_
      refine lv_sipush (v := nI 896) hx hb d_MM_sortRows_105 (by decide) ?_
      refine lv_sipush (v := nI 128) hx hb d_MM_sortRows_108 (by decide) ?_
      refine lv_aload_n hx hb d_MM_sortRows_111 rfl (lv_at hl 1 rfl) ?_
      refine va_get (D := g.1) (own := R_MM) (ref := R_MM) (ci := 5) (v := .ref (md 7)) (C := R_MM) (T := F_MM) (N := 16) hx hb hts in_MM hown hG.1 hP 0 rfl rfl 8 (by decide) (hts _ wd_391) (fun _ h9 => h9) rfl d_MM_sortRows_112 ?_
      refine lv_iload_n hx hb d_MM_sortRows_115 rfl (lv_at hl 2 rfl) ?_
      refine va_iald hx hb hG.1 hP 7 0 rfl rfl (vp_in_nI (by omega) (by decide)) d_MM_sortRows_116 ?_
      refine mt_ri (y := nI (va vi)) (by rw [nI_clamp (by omega)]; exact (hV _ (by omega)).2.1) ?_
      refine lv_imul hx hb d_MM_sortRows_117 ?_
      refine mt_ri (y := nI (128 * (va vi))) (pk_mul _ _) ?_
      refine lv_iadd hx hb d_MM_sortRows_118 ?_
      refine mt_ri (y := nI (896 + (128 * (va vi)))) (nI_add _ _) ?_
      refine lv_iload_n hx hb d_MM_sortRows_119 rfl (lv_at hl 0 rfl) ?_
      refine vp_callSi (va_runV (own := R_MM) (As := [.int (nI (896 + (128 * (va vi)))), .int (nI q)]) (rest := []) ⟨hx, hb, hml, hown, hts⟩ (c_MM_has (l := l) (g := g) (md := md) (J := J) (n := n) (v := v) (kn := kn) (pr := pr) (ar := ar) (X := X1) (s0 := 896 + (128 * (va vi))) (cc := 7 + (va vi)) (i := q) (by omega) (by omega) (by omega)) (cwV 2 hts (gx_goodV wd_500 wd_502 ws_20 wd_7 wd_503) rfl rfl rfl (by decide +kernel) ⟨Nat.le_of_ble_eq_true rfl, Nat.le_of_ble_eq_true rfl⟩) (gc_preV (gc_recv hP hG (ci := 5) rfl (q0 := 0) rfl) hP hG) rfl rfl hl.1 rfl (lv_room (Nat.le_of_ble_eq_true rfl)) d_MM_sortRows_120 ⟨Nat.le_refl _, Nat.le_refl _⟩).run (fun r hr120 => ?_)
      subst hr120
      refine lv_if_eq (tgt := 156) hx hb d_MM_sortRows_123 (by decide) (mt_z fun hc123 => ?_) (mt_nz fun hc123 => ?_)
      · ---- 51F 123T
        refine lv_iinc (k := 0) (v := nI (q + 1)) (lv' := [(3, .int (nI (q + 1))), (0, .ref (md 0)), (1, .int (nI vi)), (2, .int (nI (896 + (128 * vi))))]) hx hb d_MM_sortRows_156 hl rfl (by rw [lit1]; exact nI_1 _) (by decide) rfl (fun ls hl => ?_)
        refine lv_goto (tgt := 47) hx hb d_MM_sortRows_159 (by decide) ?_
        exact ih47 _ (by omega) (q + 1) X1 ls _ _ rfl (by omega) (mt_fl_c hfl1 (fun z => mt_lt_f (A := False) (M := fun x => mt_ms X (7 + va vi) x = true) (P := fun x z => ∃ y, y < 4096 ∧ mt_ms X (7 + vb vi) y = true ∧ z = mt_pf k a b (fun t => k t == 1 && Nat.testBit (mt_cz k 1 (fun t => Nat.testBit x (a t)) n &&& mt_cz k 1 (fun t => Nat.testBit y (b t)) n) (mt_pl k t)) n) (fun h9 => by rw [← hfl1.1 (7 + va vi) q (by omega) (by omega), hc123] at h9; cases h9))) (lv_sub hl [0, 1, 2, 3] rfl) hP hD hS
      · ---- 51F 123F
        refine lv_aload_n hx hb d_MM_sortRows_126 rfl (lv_at hl 1 rfl) ?_
        refine lv_iload_n hx hb d_MM_sortRows_127 rfl (lv_at hl 3 rfl) ?_
        refine lv_aload_n hx hb d_MM_sortRows_128 rfl (lv_at hl 1 rfl) ?_
        refine lv_aload_n hx hb d_MM_sortRows_129 rfl (lv_at hl 1 rfl) ?_
        refine va_get (D := g.1) (own := R_MM) (ref := R_MM) (ci := 5) (v := .int (nI n)) (C := R_MM) (T := F_MM) (N := 16) hx hb hts in_MM hown hG.1 hP 0 rfl rfl 0 (by decide) (hts _ wd_383) (fun _ h9 => h9) rfl d_MM_sortRows_130 ?_
        refine lv_iconst (v := nI 1) hx hb d_MM_sortRows_133 (by decide) ?_
        refine lv_iconst (v := nI 1) hx hb d_MM_sortRows_134 (by decide) ?_
        refine lv_iload_n hx hb d_MM_sortRows_135 rfl (lv_at hl 0 rfl) ?_
        refine vp_callSi (va_runV (own := R_MM) (As := [.int (nI n), .int (nI 1), .int (nI 1), .int (nI q)]) (rest := [.int (nI (896 + (128 * vi))), .ref (md 0)]) ⟨hx, hb, hml, hown, hts⟩ (c_MM_parts1 (l := l) (g := g) (md := md) (J := J) (n := n) (v := v) (kn := kn) (pr := pr) (ar := ar) (X := X1) (k := k) (a := a) (b := b) (nn := n) (kk := 1) (rw := q) hT (by omega) hw hN (by decide) (by omega)) (cwV 4 hts (gx_goodV wd_516 wd_518 ws_24 wd_7 wd_519) rfl rfl rfl (by decide +kernel) ⟨Nat.le_of_ble_eq_true rfl, Nat.le_of_ble_eq_true rfl⟩) (gc_preV (gc_recv hP hG (ci := 5) rfl (q0 := 0) rfl) hP hG) rfl rfl hl.1 rfl (lv_room (Nat.le_of_ble_eq_true rfl)) d_MM_sortRows_136 ⟨Nat.le_refl _, Nat.le_refl _⟩).run (fun r hr136 => ?_)
        subst hr136
        refine lv_sipush (v := nI 896) hx hb d_MM_sortRows_139 (by decide) ?_
        refine lv_sipush (v := nI 128) hx hb d_MM_sortRows_142 (by decide) ?_
        refine lv_aload_n hx hb d_MM_sortRows_145 rfl (lv_at hl 1 rfl) ?_
        refine va_get (D := g.1) (own := R_MM) (ref := R_MM) (ci := 5) (v := .ref (md 8)) (C := R_MM) (T := F_MM) (N := 16) hx hb hts in_MM hown hG.1 hP 0 rfl rfl 9 (by decide) (hts _ wd_392) (fun _ h9 => h9) rfl d_MM_sortRows_146 ?_
        refine lv_iload_n hx hb d_MM_sortRows_149 rfl (lv_at hl 2 rfl) ?_
        refine va_iald hx hb hG.1 hP 8 0 rfl rfl (vp_in_nI (by omega) (by decide)) d_MM_sortRows_150 ?_
        refine mt_ri (y := nI (vb vi)) (by rw [nI_clamp (by omega)]; exact (hV _ (by omega)).2.2.1) ?_
        refine lv_imul hx hb d_MM_sortRows_151 ?_
        refine mt_ri (y := nI (128 * (vb vi))) (pk_mul _ _) ?_
        refine lv_iadd hx hb d_MM_sortRows_152 ?_
        refine mt_ri (y := nI (896 + (128 * (vb vi)))) (nI_add _ _) ?_
        refine gc_cwv (va_runV (own := R_MM) (As := [.int (nI (896 + (128 * vi))), .int (nI (mt_cz k 1 (fun t => Nat.testBit q (a t)) n)), .int (nI (896 + (128 * (vb vi))))]) (rest := []) ⟨hx, hb, hml, hown, hts⟩ (c_MM_pairRows (l := l) (g := g) (md := md) (J := J) (n := n) (v := v) (kn := kn) (pr := pr) (ar := ar) (X := X1) (k := k) (a := a) (b := b) (s1 := 896 + (128 * vi)) (lf := mt_cz k 1 (fun t => Nat.testBit q (a t)) n) (s3 := 896 + (128 * (vb vi))) (vi := vi) (wb := vb vi) (X0 := X) hT (by omega) hw hN rfl rfl (by omega) (by omega) (by omega) (mt_lt13 mt_cz_lt (Nat.le_trans (mt_ct_n n) (by omega))) hfl1) (cwV 3 hts (gx_goodV wd_584 wd_586 ws_34 wd_7 wd_587) rfl rfl rfl (by decide +kernel) ⟨Nat.le_of_ble_eq_true rfl, Nat.le_of_ble_eq_true rfl⟩) (gc_preVW (gc_recv hP hG (ci := 5) rfl (q0 := 0) rfl) hP hG hD) rfl rfl hl.1 rfl (lv_room (Nat.le_of_ble_eq_true rfl)) d_MM_sortRows_153 ⟨Nat.le_refl _, Nat.le_refl _⟩) hD hS (fun X153 H locs hfl153 hP hD hS => ?_)
        have hP : va_P g.1 gx_cl (mW g md J n v kn pr ar X153) H := hP
        have hD : va_D (gx_in (mW g md J n v kn pr ar X)) (mW g md J n v kn pr ar X153) := hD
        refine lv_iinc (k := 0) (v := nI (q + 1)) (lv' := [(3, .int (nI (q + 1))), (0, .ref (md 0)), (1, .int (nI vi)), (2, .int (nI (896 + (128 * vi))))]) hx hb d_MM_sortRows_156 hl rfl (by rw [lit1]; exact nI_1 _) (by decide) rfl (fun ls hl => ?_)
        refine lv_goto (tgt := 47) hx hb d_MM_sortRows_159 (by decide) ?_
        exact ih47 _ (by omega) (q + 1) X153 ls _ _ rfl (by omega) (mt_fl_c hfl153 (fun z => mt_lt_t (A := False) (M := fun x => mt_ms X (7 + va vi) x = true) (P := fun x z => ∃ y, y < 4096 ∧ mt_ms X (7 + vb vi) y = true ∧ z = mt_pf k a b (fun t => k t == 1 && Nat.testBit (mt_cz k 1 (fun t => Nat.testBit x (a t)) n &&& mt_cz k 1 (fun t => Nat.testBit y (b t)) n) (mt_pl k t)) n) (by rw [← hfl1.1 (7 + va vi) q (by omega) (by omega)]; exact hc123))) (lv_sub hl [0, 1, 2, 3] rfl) hP hD hS
  exact lp47 _ 0 X12 ls _ _ rfl (Nat.zero_le _) (mt_fl_c (mt_fl_0 hx12) (fun z => mt_or_0)) (lv_sub hl [0, 2, 3, 1] rfl) hP hD hS

set_option maxHeartbeats 4000000 in
set_option maxRecDepth 100000 in
theorem c_MM_sortRows2 {g : gG} {md : Nat → Nat} {J : Nat → Nat → Int32} {n v kn pr ar : Nat} {X : Nat → Int64} {k a b : Nat → Nat} {vk va vb vl : Nat → Nat} {vi : Nat} {l : Launch} (hT : mt_MT J n k a b) (hn12 : n ≤ 12) (hw : mt_wf k a b n) (hN : mt_NU J pr ar n k) (hR0 : ∀ z, z < 8192 → (mt_ms X 0 z = true ↔ mt_R k a b n z)) (hv20 : v ≤ 20) (hV : mt_MV J v vk va vb vl) (hvw : mt_vw n v vk va vb vl) (hvi : vi < v) (hva : ∀ c, c < vi → ∀ z, z < 8192 → (mt_ms X (7 + c) z = true ↔ mt_V k a b vk va vb n 4 c z)) (hkv : vk vi = 2) :
    gc_RV (S := Nat → Int64) l y_MM_sortRows (gx_ws y_MM_sortRows b_MM_sortRows 4 none) 3 85 g [.ref (md 0), .int (nI vi)] (mW g md J n v kn pr ar X) (fun (u : Nat → Int64) => mW g md J n v kn pr ar u) (fun (u : Nat → Int64) => mt_fl (7 + vi) X u (fun z => mt_V k a b vk va vb n 4 vi z)) := by
  refine gx_body (by decide) (Nat.le_of_ble_eq_true rfl) ?_
  intro p e s m below meth c ls hAt hB hl
  obtain ⟨hx, hb, hml, hown, hts, hr, hlk, hnm⟩ := hAt
  have hown : s.vm.findClass R_MM = some m.cls := hown
  obtain ⟨⟨hP, hG⟩, hD0⟩ := hB
  have hD := gx_D.self hD0
  have hS : va_S (gx_in (mW g md J n v kn pr ar X)) s.heap s.heap [] := va_S.rf
  have hl : lv_has ls 4 [(0, .ref (md 0)), (1, .int (nI vi))] := hl
  have hvw1 := hvw vi hvi
  have hva2 := hvw1.2.2.2.1 hkv
  refine lv_sipush (v := nI 896) hx hb d_MM_sortRows_0 (by decide) ?_
  refine lv_sipush (v := nI 128) hx hb d_MM_sortRows_3 (by decide) ?_
  refine lv_iload_n hx hb d_MM_sortRows_6 rfl (lv_at hl 1 rfl) ?_
  refine lv_imul hx hb d_MM_sortRows_7 ?_
  refine mt_ri (y := nI (128 * vi)) (pk_mul _ _) ?_
  refine lv_iadd hx hb d_MM_sortRows_8 ?_
  refine mt_ri (y := nI (896 + (128 * vi))) (nI_add _ _) ?_
  refine lv_istore_n (lv' := [(2, .int (nI (896 + (128 * vi)))), (0, .ref (md 0)), (1, .int (nI vi))]) hx hb d_MM_sortRows_9 rfl hl (by decide) rfl (fun ls hl => ?_)
  refine lv_aload_n hx hb d_MM_sortRows_10 rfl (lv_at hl 1 rfl) ?_
  refine lv_iload_n hx hb d_MM_sortRows_11 rfl (lv_at hl 0 rfl) ?_
  refine gc_cwv (va_runV (own := R_MM) (As := [.int (nI (896 + (128 * vi)))]) (rest := []) ⟨hx, hb, hml, hown, hts⟩ (c_MM_clear (l := l) (g := g) (md := md) (J := J) (n := n) (v := v) (kn := kn) (pr := pr) (ar := ar) (X := X) (s0 := 896 + (128 * vi)) (cc := 7 + vi) (by omega) (by omega)) (cwV 1 hts (gx_goodV wd_492 wd_494 ws_18 wd_7 wd_495) rfl rfl rfl (by decide +kernel) ⟨Nat.le_of_ble_eq_true rfl, Nat.le_of_ble_eq_true rfl⟩) (gc_preVW (gc_recv hP hG (ci := 5) rfl (q0 := 0) rfl) hP hG hD) rfl rfl hl.1 rfl (lv_room (Nat.le_of_ble_eq_true rfl)) d_MM_sortRows_12 ⟨Nat.le_refl _, Nat.le_refl _⟩) hD hS (fun X12 H locs hx12 hP hD hS => ?_)
  have hP : va_P g.1 gx_cl (mW g md J n v kn pr ar X12) H := hP
  have hD : va_D (gx_in (mW g md J n v kn pr ar X)) (mW g md J n v kn pr ar X12) := hD
  refine lv_aload_n hx hb d_MM_sortRows_15 rfl (lv_at hl 1 rfl) ?_
  refine va_get (D := g.1) (own := R_MM) (ref := R_MM) (ci := 5) (v := .ref (md 6)) (C := R_MM) (T := F_MM) (N := 16) hx hb hts in_MM hown hG.1 hP 0 rfl rfl 7 (by decide) (hts _ wd_390) (fun _ h9 => h9) rfl d_MM_sortRows_16 ?_
  refine lv_iload_n hx hb d_MM_sortRows_19 rfl (lv_at hl 2 rfl) ?_
  refine va_iald hx hb hG.1 hP 6 0 rfl rfl (vp_in_nI (by omega) (by decide)) d_MM_sortRows_20 ?_
  refine mt_ri (y := nI (vk vi)) (by rw [nI_clamp (by omega)]; exact (hV _ (by omega)).1) ?_
  refine mt_ri (y := nI 2) (by rw [hkv]) ?_
  refine lv_if_ne (tgt := 45) hx hb d_MM_sortRows_21 (by decide) (fun _ => ?_) (fun h9 => absurd h9 (by decide))
  refine lv_iconst (v := nI 0) hx hb d_MM_sortRows_45 (by decide) ?_
  refine lv_istore_n (lv' := [(3, .int (nI 0)), (2, .int (nI (896 + (128 * vi)))), (0, .ref (md 0)), (1, .int (nI vi))]) hx hb d_MM_sortRows_46 rfl hl (by decide) rfl (fun ls hl => ?_)
  have lp47 : ∀ (d : Nat) (q : Nat) (X1 : Nat → Int64) (ls : Array Slot) (H : Heap) (locs : List Loc), d = 4096 - q → (q ≤ 4096) → (mt_fl (7 + vi) X X1 (fun z => False ∨ ∃ x, x < q ∧ (mt_ms X 0 x = true ∧ x.testBit (va vi) = true) ∧ z = x)) → lv_has ls 4 [(3, .int (nI q)), (0, .ref (md 0)), (1, .int (nI vi)), (2, .int (nI (896 + (128 * vi))))] → va_P g.1 gx_cl (mW g md J n v kn pr ar X1) H → va_D (gx_in (mW g md J n v kn pr ar X)) (mW g md J n v kn pr ar X1) → va_S (gx_in (mW g md J n v kn pr ar X)) s.heap H locs → W p l e (gx_rm 3 85) s m ([.ref (md 0), .int (nI vi)] : List Value).toArray below meth c H locs 0 0 (MQ below (va_Qv (fun (u : Nat → Int64) => mt_fl (7 + vi) X u (fun z => mt_V k a b vk va vb n 4 vi z)) (fun u9 t9 => va_P g.1 gx_cl ((fun (u : Nat → Int64) => mW g md J n v kn pr ar u) u9) t9.heap ∧ va_D (gx_in (mW g md J n v kn pr ar X)) ((fun (u : Nat → Int64) => mW g md J n v kn pr ar u) u9)) (gx_in (mW g md J n v kn pr ar X))) ([.ref (md 0), .int (nI vi)] : List Value).toArray s 0 0 (gx_in (mW g md J n v kn pr ar X))) (F0 m 47 ls []) := by
    intro d
    induction d using Nat.strongRecOn with
    | ind d ih47 =>
    intro q X1 ls H locs hd hq hfl1 hl hP hD hS
    refine lv_iload_n hx hb d_MM_sortRows_47 rfl (lv_at hl 0 rfl) ?_
    refine lv_sipush (v := nI 4096) hx hb d_MM_sortRows_48 (by decide) ?_
    refine lv_icmp_ge (tgt := 162) hx hb d_MM_sortRows_51 (by decide) (mt_le (by omega) (by omega) fun hc51 => ?_) (mt_nle (by omega) (by omega) fun hc51 => ?_)
    · ---- 51T
      exact gc_retv (u := (X1)) (Wf := fun (u : Nat → Int64) => mW g md J n v kn pr ar u) (post := fun (u : Nat → Int64) => mt_fl (7 + vi) X u (fun z => mt_V k a b vk va vb n 4 vi z)) hx hb hr hlk (by rw [show q = 4096 by omega] at hfl1; exact mt_fl_c hfl1 (mt_sr2 hkv hR0 hn12)) hP hD hS d_MM_sortRows_162
    · ---- 51F
      refine lv_aload_n hx hb d_MM_sortRows_54 rfl (lv_at hl 1 rfl) ?_
      refine va_get (D := g.1) (own := R_MM) (ref := R_MM) (ci := 5) (v := .ref (md 6)) (C := R_MM) (T := F_MM) (N := 16) hx hb hts in_MM hown hG.1 hP 0 rfl rfl 7 (by decide) (hts _ wd_390) (fun _ h9 => h9) rfl d_MM_sortRows_55 ?_
      refine lv_iload_n hx hb d_MM_sortRows_58 rfl (lv_at hl 2 rfl) ?_
      refine va_iald hx hb hG.1 hP 6 0 rfl rfl (vp_in_nI (by omega) (by decide)) d_MM_sortRows_59 ?_
      refine mt_ri (y := nI (vk vi)) (by rw [nI_clamp (by omega)]; exact (hV _ (by omega)).1) ?_
      refine mt_ri (y := nI 2) (by rw [hkv]) ?_
      refine lv_iconst (v := nI 2) hx hb d_MM_sortRows_60 (by decide) ?_
      refine lv_icmp_ne (tgt := 94) hx hb d_MM_sortRows_61 (by decide) (fun h9 => absurd h9 (by decide)) (fun _ => ?_)
      refine lv_aload_n hx hb d_MM_sortRows_64 rfl (lv_at hl 1 rfl) ?_
      refine lv_iconst (v := nI 0) hx hb d_MM_sortRows_65 (by decide) ?_
      refine lv_iload_n hx hb d_MM_sortRows_66 rfl (lv_at hl 0 rfl) ?_
      refine vp_callSi (va_runV (own := R_MM) (As := [.int (nI 0), .int (nI q)]) (rest := []) ⟨hx, hb, hml, hown, hts⟩ (c_MM_has (l := l) (g := g) (md := md) (J := J) (n := n) (v := v) (kn := kn) (pr := pr) (ar := ar) (X := X1) (s0 := 0) (cc := 0) (i := q) (by omega) (by omega) (by omega)) (cwV 2 hts (gx_goodV wd_500 wd_502 ws_20 wd_7 wd_503) rfl rfl rfl (by decide +kernel) ⟨Nat.le_of_ble_eq_true rfl, Nat.le_of_ble_eq_true rfl⟩) (gc_preV (gc_recv hP hG (ci := 5) rfl (q0 := 0) rfl) hP hG) rfl rfl hl.1 rfl (lv_room (Nat.le_of_ble_eq_true rfl)) d_MM_sortRows_67 ⟨Nat.le_refl _, Nat.le_refl _⟩).run (fun r hr67 => ?_)
      subst hr67
      refine lv_if_eq (tgt := 94) hx hb d_MM_sortRows_70 (by decide) (mt_z fun hc70 => ?_) (mt_nz fun hc70 => ?_)
      · ---- 51F 70T
        refine lv_aload_n hx hb d_MM_sortRows_94 rfl (lv_at hl 1 rfl) ?_
        refine va_get (D := g.1) (own := R_MM) (ref := R_MM) (ci := 5) (v := .ref (md 6)) (C := R_MM) (T := F_MM) (N := 16) hx hb hts in_MM hown hG.1 hP 0 rfl rfl 7 (by decide) (hts _ wd_390) (fun _ h9 => h9) rfl d_MM_sortRows_95 ?_
        refine lv_iload_n hx hb d_MM_sortRows_98 rfl (lv_at hl 2 rfl) ?_
        refine va_iald hx hb hG.1 hP 6 0 rfl rfl (vp_in_nI (by omega) (by decide)) d_MM_sortRows_99 ?_
        refine mt_ri (y := nI (vk vi)) (by rw [nI_clamp (by omega)]; exact (hV _ (by omega)).1) ?_
        refine mt_ri (y := nI 2) (by rw [hkv]) ?_
        refine lv_iconst (v := nI 1) hx hb d_MM_sortRows_100 (by decide) ?_
        refine lv_icmp_ne (tgt := 156) hx hb d_MM_sortRows_101 (by decide) (fun _ => ?_) (fun h9 => absurd h9 (by decide))
        refine lv_iinc (k := 0) (v := nI (q + 1)) (lv' := [(3, .int (nI (q + 1))), (0, .ref (md 0)), (1, .int (nI vi)), (2, .int (nI (896 + (128 * vi))))]) hx hb d_MM_sortRows_156 hl rfl (by rw [lit1]; exact nI_1 _) (by decide) rfl (fun ls hl => ?_)
        refine lv_goto (tgt := 47) hx hb d_MM_sortRows_159 (by decide) ?_
        exact ih47 _ (by omega) (q + 1) X1 ls _ _ rfl (by omega) (mt_fl_c hfl1 (fun z => mt_lt_f (A := False) (M := fun x => mt_ms X 0 x = true ∧ x.testBit (va vi) = true) (P := fun x z => z = x) (fun h9 => by rw [← hfl1.1 0 q (by omega) (by omega), hc70] at h9; cases h9.1))) (lv_sub hl [0, 1, 2, 3] rfl) hP hD hS
      · ---- 51F 70F
        refine lv_iload_n hx hb d_MM_sortRows_73 rfl (lv_at hl 0 rfl) ?_
        refine lv_aload_n hx hb d_MM_sortRows_74 rfl (lv_at hl 1 rfl) ?_
        refine va_get (D := g.1) (own := R_MM) (ref := R_MM) (ci := 5) (v := .ref (md 7)) (C := R_MM) (T := F_MM) (N := 16) hx hb hts in_MM hown hG.1 hP 0 rfl rfl 8 (by decide) (hts _ wd_391) (fun _ h9 => h9) rfl d_MM_sortRows_75 ?_
        refine lv_iload_n hx hb d_MM_sortRows_78 rfl (lv_at hl 2 rfl) ?_
        refine va_iald hx hb hG.1 hP 7 0 rfl rfl (vp_in_nI (by omega) (by decide)) d_MM_sortRows_79 ?_
        refine mt_ri (y := nI (va vi)) (by rw [nI_clamp (by omega)]; exact (hV _ (by omega)).2.1) ?_
        refine lv_ishr hx hb d_MM_sortRows_80 ?_
        refine lv_iconst (v := nI 1) hx hb d_MM_sortRows_81 (by decide) ?_
        refine lv_iand hx hb d_MM_sortRows_82 ?_
        refine mt_ri (y := mt_b (Nat.testBit q (va vi))) (mt_bit1 (by omega) (by omega)) ?_
        refine lv_iconst (v := nI 1) hx hb d_MM_sortRows_83 (by decide) ?_
        refine lv_icmp_ne (tgt := 94) hx hb d_MM_sortRows_84 (by decide) (mt_nb1 fun hc84 => ?_) (mt_b1 fun hc84 => ?_)
        · ---- 51F 70F 84T
          refine lv_aload_n hx hb d_MM_sortRows_94 rfl (lv_at hl 1 rfl) ?_
          refine va_get (D := g.1) (own := R_MM) (ref := R_MM) (ci := 5) (v := .ref (md 6)) (C := R_MM) (T := F_MM) (N := 16) hx hb hts in_MM hown hG.1 hP 0 rfl rfl 7 (by decide) (hts _ wd_390) (fun _ h9 => h9) rfl d_MM_sortRows_95 ?_
          refine lv_iload_n hx hb d_MM_sortRows_98 rfl (lv_at hl 2 rfl) ?_
          refine va_iald hx hb hG.1 hP 6 0 rfl rfl (vp_in_nI (by omega) (by decide)) d_MM_sortRows_99 ?_
          refine mt_ri (y := nI (vk vi)) (by rw [nI_clamp (by omega)]; exact (hV _ (by omega)).1) ?_
          refine mt_ri (y := nI 2) (by rw [hkv]) ?_
          refine lv_iconst (v := nI 1) hx hb d_MM_sortRows_100 (by decide) ?_
          refine lv_icmp_ne (tgt := 156) hx hb d_MM_sortRows_101 (by decide) (fun _ => ?_) (fun h9 => absurd h9 (by decide))
          refine lv_iinc (k := 0) (v := nI (q + 1)) (lv' := [(3, .int (nI (q + 1))), (0, .ref (md 0)), (1, .int (nI vi)), (2, .int (nI (896 + (128 * vi))))]) hx hb d_MM_sortRows_156 hl rfl (by rw [lit1]; exact nI_1 _) (by decide) rfl (fun ls hl => ?_)
          refine lv_goto (tgt := 47) hx hb d_MM_sortRows_159 (by decide) ?_
          exact ih47 _ (by omega) (q + 1) X1 ls _ _ rfl (by omega) (mt_fl_c hfl1 (fun z => mt_lt_f (A := False) (M := fun x => mt_ms X 0 x = true ∧ x.testBit (va vi) = true) (P := fun x z => z = x) (fun h9 => by rw [hc84] at h9; cases h9.2))) (lv_sub hl [0, 1, 2, 3] rfl) hP hD hS
        · ---- 51F 70F 84F
          refine lv_aload_n hx hb d_MM_sortRows_87 rfl (lv_at hl 1 rfl) ?_
          refine lv_iload_n hx hb d_MM_sortRows_88 rfl (lv_at hl 3 rfl) ?_
          refine lv_iload_n hx hb d_MM_sortRows_89 rfl (lv_at hl 0 rfl) ?_
          refine gc_cwi (va_runV (own := R_MM) (As := [.int (nI (896 + (128 * vi))), .int (nI q)]) (rest := []) ⟨hx, hb, hml, hown, hts⟩ (c_MM_put (l := l) (g := g) (md := md) (J := J) (n := n) (v := v) (kn := kn) (pr := pr) (ar := ar) (X := X1) (s0 := 896 + (128 * vi)) (cc := 7 + vi) (i := q) (by omega) (by omega) (by omega)) (cwV 2 hts (gx_goodV wd_496 wd_498 ws_19 wd_7 wd_499) rfl rfl rfl (by decide +kernel) ⟨Nat.le_of_ble_eq_true rfl, Nat.le_of_ble_eq_true rfl⟩) (gc_preVW (gc_recv hP hG (ci := 5) rfl (q0 := 0) rfl) hP hG hD) rfl rfl hl.1 rfl (lv_room (Nat.le_of_ble_eq_true rfl)) d_MM_sortRows_90 ⟨Nat.le_refl _, Nat.le_refl _⟩) hD hS (fun r90 X90 H locs hr90 hP hD hS => ?_)
          obtain ⟨hr90, hx90⟩ := hr90
          subst hr90
          have hP : va_P g.1 gx_cl (mW g md J n v kn pr ar X90) H := hP
          have hD : va_D (gx_in (mW g md J n v kn pr ar X)) (mW g md J n v kn pr ar X90) := hD
          refine lv_pop hx hb d_MM_sortRows_93 rfl ?_
          refine lv_aload_n hx hb d_MM_sortRows_94 rfl (lv_at hl 1 rfl) ?_
          refine va_get (D := g.1) (own := R_MM) (ref := R_MM) (ci := 5) (v := .ref (md 6)) (C := R_MM) (T := F_MM) (N := 16) hx hb hts in_MM hown hG.1 hP 0 rfl rfl 7 (by decide) (hts _ wd_390) (fun _ h9 => h9) rfl d_MM_sortRows_95 ?_
          refine lv_iload_n hx hb d_MM_sortRows_98 rfl (lv_at hl 2 rfl) ?_
          refine va_iald hx hb hG.1 hP 6 0 rfl rfl (vp_in_nI (by omega) (by decide)) d_MM_sortRows_99 ?_
          refine mt_ri (y := nI (vk vi)) (by rw [nI_clamp (by omega)]; exact (hV _ (by omega)).1) ?_
          refine mt_ri (y := nI 2) (by rw [hkv]) ?_
          refine lv_iconst (v := nI 1) hx hb d_MM_sortRows_100 (by decide) ?_
          refine lv_icmp_ne (tgt := 156) hx hb d_MM_sortRows_101 (by decide) (fun _ => ?_) (fun h9 => absurd h9 (by decide))
          refine lv_iinc (k := 0) (v := nI (q + 1)) (lv' := [(3, .int (nI (q + 1))), (0, .ref (md 0)), (1, .int (nI vi)), (2, .int (nI (896 + (128 * vi))))]) hx hb d_MM_sortRows_156 hl rfl (by rw [lit1]; exact nI_1 _) (by decide) rfl (fun ls hl => ?_)
          refine lv_goto (tgt := 47) hx hb d_MM_sortRows_159 (by decide) ?_
          exact ih47 _ (by omega) (q + 1) X90 ls _ _ rfl (by omega) (mt_fl_c (mt_fl_p hfl1 hx90) (fun z => mt_lt_t (A := False) (M := fun x => mt_ms X 0 x = true ∧ x.testBit (va vi) = true) (P := fun x z => z = x) ⟨by rw [← hfl1.1 0 q (by omega) (by omega)]; exact hc70, hc84⟩)) (lv_sub hl [0, 1, 2, 3] rfl) hP hD hS
  exact lp47 _ 0 X12 ls _ _ rfl (Nat.zero_le _) (mt_fl_c (mt_fl_0 hx12) (fun z => mt_or_0)) (lv_sub hl [0, 2, 3, 1] rfl) hP hD hS

theorem c_MM_sortRows {g : gG} {md : Nat → Nat} {J : Nat → Nat → Int32} {n v kn pr ar : Nat} {X : Nat → Int64} {k a b : Nat → Nat} {vk va vb vl : Nat → Nat} {vi : Nat} {l : Launch} (hT : mt_MT J n k a b) (hn12 : n ≤ 12) (hw : mt_wf k a b n) (hN : mt_NU J pr ar n k) (hR0 : ∀ z, z < 8192 → (mt_ms X 0 z = true ↔ mt_R k a b n z)) (hv20 : v ≤ 20) (hV : mt_MV J v vk va vb vl) (hvw : mt_vw n v vk va vb vl) (hvi : vi < v) (hva : ∀ c, c < vi → ∀ z, z < 8192 → (mt_ms X (7 + c) z = true ↔ mt_V k a b vk va vb n 4 c z)) :
    gc_RV (S := Nat → Int64) l y_MM_sortRows (gx_ws y_MM_sortRows b_MM_sortRows 4 none) 3 85 g [.ref (md 0), .int (nI vi)] (mW g md J n v kn pr ar X) (fun (u : Nat → Int64) => mW g md J n v kn pr ar u) (fun (u : Nat → Int64) => mt_fl (7 + vi) X u (fun z => mt_V k a b vk va vb n 4 vi z)) := by
  have h3 : vk vi = 0 ∨ vk vi = 1 ∨ vk vi = 2 := by have := (hvw vi hvi).1; omega
  rcases h3 with h3 | h3 | h3
  · exact c_MM_sortRows0 hT hn12 hw hN hR0 hv20 hV hvw hvi hva h3
  · exact c_MM_sortRows1 hT hn12 hw hN hR0 hv20 hV hvw hvi hva h3
  · exact c_MM_sortRows2 hT hn12 hw hN hR0 hv20 hV hvw hvi hva h3
