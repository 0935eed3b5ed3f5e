set_option maxHeartbeats 4000000 in
set_option maxRecDepth 100000 in
theorem c_MM_pairRows {g : gG} {md : Nat → Nat} {J : Nat → Nat → Int32} {n v kn pr ar : Nat} {X : Nat → Int64} {k a b : Nat → Nat} {s1 s3 lf vi wb : Nat} {X0 : Nat → Int64} {Dn : Nat → Prop} {l : Launch} (hT : mt_MT J n k a b) (hn12 : n ≤ 12) (hw : mt_wf k a b n) (hN : mt_NU J pr ar n k) (hs1 : s1 = 896 + 128 * vi) (hs3 : s3 = 896 + 128 * wb) (hvi : vi < 20) (hwb : wb < 20) (hne : wb ≠ vi) (hlf : lf < 8192) (hfl : mt_fl (7 + vi) X0 X Dn) :
    gc_RV (S := Nat → Int64) l y_MM_pairRows (gx_ws y_MM_pairRows b_MM_pairRows 5 none) 2 45 g [.ref (md 0), .int (nI s1), .int (nI lf), .int (nI s3)] (mW g md J n v kn pr ar X) (fun (u : Nat → Int64) => mW g md J n v kn pr ar u) (fun (u : Nat → Int64) => mt_fl (7 + vi) X0 u (fun z => Dn z ∨ ∃ x, x < 4096 ∧ mt_ms X0 (7 + wb) x = true ∧ z = mt_pf k a b (fun t => k t == 1 && Nat.testBit (lf &&& mt_cz k 1 (fun t => Nat.testBit x (b t)) n) (mt_pl k t)) n)) := by
  refine gx_body (by decide) (Nat.le_of_ble_eq_true rfl) ?_
  intro p e s m below meth c ls hAt hB hl
  obtain ⟨hx, hb, hml, hown, hts, hr, hlk, hnm⟩ := hAt
  have hown : s.vm.findClass R_MM = some m.cls := hown
  obtain ⟨⟨hP, hG⟩, hD0⟩ := hB
  have hD := gx_D.self hD0
  have hS : va_S (gx_in (mW g md J n v kn pr ar X)) s.heap s.heap [] := va_S.rf
  have hl : lv_has ls 5 [(0, .ref (md 0)), (1, .int (nI s1)), (2, .int (nI lf)), (3, .int (nI s3))] := hl
  refine lv_iconst (v := nI 0) hx hb d_MM_pairRows_0 (by decide) ?_
  refine lv_istore (lv' := [(4, .int (nI 0)), (0, .ref (md 0)), (1, .int (nI s1)), (2, .int (nI lf)), (3, .int (nI s3))]) hx hb d_MM_pairRows_1 hl (by decide) rfl (fun ls hl => ?_)
  have lp3 : ∀ (d : Nat) (q : Nat) (X1 : Nat → Int64) (ls : Array Slot) (H : Heap) (locs : List Loc), d = 4096 - q → (q ≤ 4096) → (mt_fl (7 + vi) X0 X1 (fun z => Dn z ∨ ∃ x, x < q ∧ mt_ms X0 (7 + wb) x = true ∧ z = mt_pf k a b (fun t => k t == 1 && Nat.testBit (lf &&& mt_cz k 1 (fun t => Nat.testBit x (b t)) n) (mt_pl k t)) n)) → lv_has ls 5 [(4, .int (nI q)), (0, .ref (md 0)), (1, .int (nI s1)), (2, .int (nI lf)), (3, .int (nI s3))] → va_P g.1 gx_cl (mW g md J n v kn pr ar X1) H → va_D (gx_in (mW g md J n v kn pr ar X)) (mW g md J n v kn pr ar X1) → va_S (gx_in (mW g md J n v kn pr ar X)) s.heap H locs → W p l e (gx_rm 2 45) s m ([.ref (md 0), .int (nI s1), .int (nI lf), .int (nI s3)] : List Value).toArray below meth c H locs 0 0 (MQ below (va_Qv (fun (u : Nat → Int64) => mt_fl (7 + vi) X0 u (fun z => Dn z ∨ ∃ x, x < 4096 ∧ mt_ms X0 (7 + wb) x = true ∧ z = mt_pf k a b (fun t => k t == 1 && Nat.testBit (lf &&& mt_cz k 1 (fun t => Nat.testBit x (b t)) n) (mt_pl k t)) n)) (fun u9 t9 => va_P g.1 gx_cl ((fun (u : Nat → Int64) => mW g md J n v kn pr ar u) u9) t9.heap ∧ va_D (gx_in (mW g md J n v kn pr ar X)) ((fun (u : Nat → Int64) => mW g md J n v kn pr ar u) u9)) (gx_in (mW g md J n v kn pr ar X))) ([.ref (md 0), .int (nI s1), .int (nI lf), .int (nI s3)] : List Value).toArray s 0 0 (gx_in (mW g md J n v kn pr ar X))) (F0 m 3 ls []) := by
    intro d
    induction d using Nat.strongRecOn with
    | ind d ih3 =>
    intro q X1 ls H locs hd hq hfl1 hl hP hD hS
    refine lv_iload hx hb d_MM_pairRows_3 (lv_at hl 0 rfl) ?_
    refine lv_sipush (v := nI 4096) hx hb d_MM_pairRows_5 (by decide) ?_
    refine lv_icmp_ge (tgt := 56) hx hb d_MM_pairRows_8 (by decide) (mt_le (by omega) (by omega) fun hc8 => ?_) (mt_nle (by omega) (by omega) fun hc8 => ?_)
    · ---- 8T
      exact gc_retv (u := (X1)) (Wf := fun (u : Nat → Int64) => mW g md J n v kn pr ar u) (post := fun (u : Nat → Int64) => mt_fl (7 + vi) X0 u (fun z => Dn z ∨ ∃ x, x < 4096 ∧ mt_ms X0 (7 + wb) x = true ∧ z = mt_pf k a b (fun t => k t == 1 && Nat.testBit (lf &&& mt_cz k 1 (fun t => Nat.testBit x (b t)) n) (mt_pl k t)) n)) hx hb hr hlk (by rw [show q = 4096 by omega] at hfl1; exact hfl1) hP hD hS d_MM_pairRows_56
    · ---- 8F
      refine lv_aload_n hx hb d_MM_pairRows_11 rfl (lv_at hl 1 rfl) ?_
      refine lv_iload_n hx hb d_MM_pairRows_12 rfl (lv_at hl 4 rfl) ?_
      refine lv_iload hx hb d_MM_pairRows_13 (lv_at hl 0 rfl) ?_
      refine vp_callSi (va_runV (own := R_MM) (As := [.int (nI s3), .int (nI q)]) (rest := []) ⟨hx, hb, hml, hown, hts⟩ (c_MM_has (l := l) (g := g) (md := md) (J := J) (n := n) (v := v) (kn := kn) (pr := pr) (ar := ar) (X := X1) (s0 := s3) (cc := 7 + wb) (i := q) (by omega) (by omega) (by omega)) (cwV 2 hts (gx_goodV wd_500 wd_502 ws_20 wd_7 wd_503) rfl rfl rfl (by decide +kernel) ⟨Nat.le_of_ble_eq_true rfl, Nat.le_of_ble_eq_true rfl⟩) (gc_preV (gc_recv hP hG (ci := 5) rfl (q0 := 0) rfl) hP hG) rfl rfl hl.1 rfl (lv_room (Nat.le_of_ble_eq_true rfl)) d_MM_pairRows_15 ⟨Nat.le_refl _, Nat.le_refl _⟩).run (fun r hr15 => ?_)
      subst hr15
      refine lv_if_eq (tgt := 50) hx hb d_MM_pairRows_18 (by decide) (mt_z fun hc18 => ?_) (mt_nz fun hc18 => ?_)
      · ---- 8F 18T
        refine lv_iinc (k := 0) (v := nI (q + 1)) (lv' := [(4, .int (nI (q + 1))), (0, .ref (md 0)), (1, .int (nI s1)), (2, .int (nI lf)), (3, .int (nI s3))]) hx hb d_MM_pairRows_50 hl rfl (by rw [lit1]; exact nI_1 _) (by decide) rfl (fun ls hl => ?_)
        refine lv_goto (tgt := 3) hx hb d_MM_pairRows_53 (by decide) ?_
        exact ih3 _ (by omega) (q + 1) X1 ls _ _ rfl (by omega) (mt_fl_c hfl1 (fun z => mt_lt_f (A := Dn z) (M := fun x => mt_ms X0 (7 + wb) x = true) (P := fun x z => z = mt_pf k a b (fun t => k t == 1 && Nat.testBit (lf &&& mt_cz k 1 (fun t => Nat.testBit x (b t)) n) (mt_pl k t)) n) (by rw [← hfl1.1 (7 + wb) q (by omega) (by omega), hc18]; decide))) (lv_sub hl [0, 1, 2, 3, 4] rfl) hP hD hS
      · ---- 8F 18F
        refine lv_aload_n hx hb d_MM_pairRows_21 rfl (lv_at hl 1 rfl) ?_
        refine lv_iload_n hx hb d_MM_pairRows_22 rfl (lv_at hl 2 rfl) ?_
        refine lv_aload_n hx hb d_MM_pairRows_23 rfl (lv_at hl 1 rfl) ?_
        refine lv_aload_n hx hb d_MM_pairRows_24 rfl (lv_at hl 1 rfl) ?_
        refine va_get (D := g.1) (own := R_MM) (ref := R_MM) (ci := 5) (v := .int (nI n)) (C := R_MM) (T := F_MM) (N := 16) hx hb hts in_MM hown hG.1 hP 0 rfl rfl 0 (by decide) (hts _ wd_383) (fun _ h9 => h9) rfl d_MM_pairRows_25 ?_
        refine lv_iconst (v := nI 1) hx hb d_MM_pairRows_28 (by decide) ?_
        refine lv_iload_n hx hb d_MM_pairRows_29 rfl (lv_at hl 3 rfl) ?_
        refine lv_aload_n hx hb d_MM_pairRows_30 rfl (lv_at hl 1 rfl) ?_
        refine lv_aload_n hx hb d_MM_pairRows_31 rfl (lv_at hl 1 rfl) ?_
        refine va_get (D := g.1) (own := R_MM) (ref := R_MM) (ci := 5) (v := .int (nI n)) (C := R_MM) (T := F_MM) (N := 16) hx hb hts in_MM hown hG.1 hP 0 rfl rfl 0 (by decide) (hts _ wd_383) (fun _ h9 => h9) rfl d_MM_pairRows_32 ?_
        refine lv_iconst (v := nI 1) hx hb d_MM_pairRows_35 (by decide) ?_
        refine lv_iconst (v := nI 0) hx hb d_MM_pairRows_36 (by decide) ?_
        refine lv_iload hx hb d_MM_pairRows_37 (lv_at hl 0 rfl) ?_
        refine vp_callSi (va_runV (own := R_MM) (As := [.int (nI n), .int (nI 1), .int (nI 0), .int (nI q)]) (rest := [.int (nI lf), .int (nI 1), .int (nI n), .ref (md 0), .int (nI s1), .ref (md 0)]) ⟨hx, hb, hml, hown, hts⟩ (c_MM_parts0 (l := l) (g := g) (md := md) (J := J) (n := n) (v := v) (kn := kn) (pr := pr) (ar := ar) (X := X1) (k := k) (a := a) (b := b) (nn := n) (kk := 1) (rw := q) hT (by omega) hw hN (by decide) (by omega)) (cwV 4 hts (gx_goodV wd_516 wd_518 ws_24 wd_7 wd_519) rfl rfl rfl (by decide +kernel) ⟨Nat.le_of_ble_eq_true rfl, Nat.le_of_ble_eq_true rfl⟩) (gc_preV (gc_recv hP hG (ci := 5) rfl (q0 := 0) rfl) hP hG) rfl rfl hl.1 rfl (lv_room (Nat.le_of_ble_eq_true rfl)) d_MM_pairRows_39 ⟨Nat.le_refl _, Nat.le_refl _⟩).run (fun r hr39 => ?_)
        subst hr39
        refine lv_iand hx hb d_MM_pairRows_42 ?_
        refine mt_ri (y := nI (lf &&& (mt_cz k 1 (fun t => Nat.testBit q (b t)) n))) (mt_and _ _) ?_
        refine vp_callSi (va_runV (own := R_MM) (As := [.int (nI n), .int (nI 1), .int (nI (lf &&& (mt_cz k 1 (fun t => Nat.testBit q (b t)) n)))]) (rest := [.int (nI s1), .ref (md 0)]) ⟨hx, hb, hml, hown, hts⟩ (c_MM_rowOf1 (l := l) (g := g) (md := md) (J := J) (n := n) (v := v) (kn := kn) (pr := pr) (ar := ar) (X := X1) (k := k) (a := a) (b := b) (nn := n) (wh := lf &&& (mt_cz k 1 (fun t => Nat.testBit q (b t)) n)) hT (by omega) hw hN (by exact Nat.lt_of_le_of_lt Nat.and_le_left hlf)) (cwV 3 hts (gx_goodV wd_508 wd_510 ws_22 wd_7 wd_511) rfl rfl rfl (by decide +kernel) ⟨Nat.le_of_ble_eq_true rfl, Nat.le_of_ble_eq_true rfl⟩) (gc_preV (gc_recv hP hG (ci := 5) rfl (q0 := 0) rfl) hP hG) rfl rfl hl.1 rfl (lv_room (Nat.le_of_ble_eq_true rfl)) d_MM_pairRows_43 ⟨Nat.le_refl _, Nat.le_refl _⟩).run (fun r hr43 => ?_)
        subst hr43
        refine gc_cwi (va_runV (own := R_MM) (As := [.int (nI s1), .int (nI (mt_pf k a b (fun t => k t == 1 && Nat.testBit (lf &&& (mt_cz k 1 (fun t => Nat.testBit q (b t)) n)) (mt_pl k t)) n))]) (rest := []) ⟨hx, hb, hml, hown, hts⟩ (c_MM_put (l := l) (g := g) (md := md) (J := J) (n := n) (v := v) (kn := kn) (pr := pr) (ar := ar) (X := X1) (s0 := s1) (cc := 7 + vi) (i := mt_pf k a b (fun t => k t == 1 && Nat.testBit (lf &&& (mt_cz k 1 (fun t => Nat.testBit q (b t)) n)) (mt_pl k t)) n) (by omega) (by omega) (by exact mt_lt13 (mt_pf_lt _ _ _ _ _) (by omega))) (cwV 2 hts (gx_goodV wd_496 wd_498 ws_19 wd_7 wd_499) rfl rfl rfl (by decide +kernel) ⟨Nat.le_of_ble_eq_true rfl, Nat.le_of_ble_eq_true rfl⟩) (gc_preVW (gc_recv hP hG (ci := 5) rfl (q0 := 0) rfl) hP hG hD) rfl rfl hl.1 rfl (lv_room (Nat.le_of_ble_eq_true rfl)) d_MM_pairRows_46 ⟨Nat.le_refl _, Nat.le_refl _⟩) hD hS (fun r46 X46 H locs hr46 hP hD hS => ?_)
        obtain ⟨hr46, hx46⟩ := hr46
        subst hr46
        have hP : va_P g.1 gx_cl (mW g md J n v kn pr ar X46) H := hP
        have hD : va_D (gx_in (mW g md J n v kn pr ar X)) (mW g md J n v kn pr ar X46) := hD
        refine lv_pop hx hb d_MM_pairRows_49 rfl ?_
        refine lv_iinc (k := 0) (v := nI (q + 1)) (lv' := [(4, .int (nI (q + 1))), (0, .ref (md 0)), (1, .int (nI s1)), (2, .int (nI lf)), (3, .int (nI s3))]) hx hb d_MM_pairRows_50 hl rfl (by rw [lit1]; exact nI_1 _) (by decide) rfl (fun ls hl => ?_)
        refine lv_goto (tgt := 3) hx hb d_MM_pairRows_53 (by decide) ?_
        exact ih3 _ (by omega) (q + 1) X46 ls _ _ rfl (by omega) (mt_fl_c (mt_fl_p hfl1 hx46) (fun z => mt_lt_t (A := Dn z) (M := fun x => mt_ms X0 (7 + wb) x = true) (P := fun x z => z = mt_pf k a b (fun t => k t == 1 && Nat.testBit (lf &&& mt_cz k 1 (fun t => Nat.testBit x (b t)) n) (mt_pl k t)) n) (by rw [← hfl1.1 (7 + wb) q (by omega) (by omega)]; exact hc18))) (lv_sub hl [0, 1, 2, 3, 4] rfl) hP hD hS
  exact lp3 _ 0 X ls _ _ rfl (Nat.zero_le _) (mt_fl_c hfl (fun z => mt_or_0)) (lv_sub hl [0, 1, 2, 3, 4] rfl) hP hD hS
