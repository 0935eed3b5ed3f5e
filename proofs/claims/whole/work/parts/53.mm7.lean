set_option maxHeartbeats 4000000 in
set_option maxRecDepth 100000 in
theorem c_MM_makeFunctions {g : gG} {md : Nat → Nat} {J : Nat → Nat → Int32} {n v kn pr ar : Nat} {X : Nat → Int64}  {l : Launch} (har13 : ar ≤ 13) (hcs : mt_cs ar X) :
    gc_RW (S := Nat → Int64) l y_MM_makeFunctions (gx_ws y_MM_makeFunctions b_MM_makeFunctions 4 (some .boolean)) 3 67 g [.ref (md 0)] (mW g md J n v kn pr ar X) (fun (u : Nat → Int64) => mW g md J n v kn pr ar u) (fun r (u : Nat → Int64) => ∃ q, r = mt_b q ∧ mt_fk ar X u (fun x => ∃ y z, y < (2 ^ ar) ∧ z < 2 ^ ar ∧ mt_ms X 5 y = true ∧ mt_ms X 6 z = true ∧ x = mt_dif y z) q) := by
  refine gx_body (by decide) (Nat.le_of_ble_eq_true rfl) ?_
  intro p e s m below meth c ls hAt hB hl
  obtain ⟨hx, hb, hml, hown, hts, hr, hlk, hnm⟩ := hAt
  have hown : s.vm.findClass R_MM = some m.cls := hown
  obtain ⟨⟨hP, hG⟩, hD0⟩ := hB
  have hD := gx_D.self hD0
  have hS : va_S (gx_in (mW g md J n v kn pr ar X)) s.heap s.heap [] := va_S.rf
  have hl : lv_has ls 4 [(0, .ref (md 0))] := hl
  have har2 := mt_p13 har13
  refine lv_iconst (v := nI 0) hx hb d_MM_makeFunctions_0 (by decide) ?_
  refine lv_istore_n (lv' := [(1, .int (nI 0)), (0, .ref (md 0))]) hx hb d_MM_makeFunctions_1 rfl hl (by decide) rfl (fun ls hl => ?_)
  refine lv_iconst (v := nI 0) hx hb d_MM_makeFunctions_2 (by decide) ?_
  refine lv_istore_n (lv' := [(2, .int (nI 0)), (1, .int (nI 0)), (0, .ref (md 0))]) hx hb d_MM_makeFunctions_3 rfl hl (by decide) rfl (fun ls hl => ?_)
  have lp4 : ∀ (d : Nat) (mm : Bool) (q2 : Nat) (X1 : Nat → Int64) (ls : Array Slot) (H : Heap) (locs : List Loc), d = 2 ^ ar - q2 → (q2 ≤ 2 ^ ar) → (mt_fk ar X X1 (fun x => ∃ y z, y < q2 ∧ z < 2 ^ ar ∧ mt_ms X 5 y = true ∧ mt_ms X 6 z = true ∧ x = mt_dif y z) mm) → lv_has ls 4 [(1, .int (mt_b mm)), (2, .int (nI q2)), (0, .ref (md 0))] → va_P g.1 gx_cl (mW g md J n v kn pr ar X1) H → va_D (gx_in (mW g md J n v kn pr ar X)) (mW g md J n v kn pr ar X1) → va_S (gx_in (mW g md J n v kn pr ar X)) s.heap H locs → W p l e (gx_rm 3 67) s m ([.ref (md 0)] : List Value).toArray below meth c H locs 0 0 (MQ below (va_Qi (fun r (u : Nat → Int64) => ∃ q, r = mt_b q ∧ mt_fk ar X u (fun x => ∃ y z, y < (2 ^ ar) ∧ z < 2 ^ ar ∧ mt_ms X 5 y = true ∧ mt_ms X 6 z = true ∧ x = mt_dif y z) q) (fun u9 t9 => va_P g.1 gx_cl ((fun (u : Nat → Int64) => mW g md J n v kn pr ar u) u9) t9.heap ∧ va_D (gx_in (mW g md J n v kn pr ar X)) ((fun (u : Nat → Int64) => mW g md J n v kn pr ar u) u9)) (gx_in (mW g md J n v kn pr ar X))) ([.ref (md 0)] : List Value).toArray s 0 0 (gx_in (mW g md J n v kn pr ar X))) (F0 m 4 ls []) := by
    intro d
    induction d using Nat.strongRecOn with
    | ind d ih4 =>
    intro mm q2 X1 ls H locs hd hq2 hm hl hP hD hS
    refine lv_iload_n hx hb d_MM_makeFunctions_4 rfl (lv_at hl 1 rfl) ?_
    refine lv_iconst (v := nI 1) hx hb d_MM_makeFunctions_5 (by decide) ?_
    refine lv_aload_n hx hb d_MM_makeFunctions_6 rfl (lv_at hl 2 rfl) ?_
    refine va_get (D := g.1) (own := R_MM) (ref := R_MM) (ci := 5) (v := .int (nI ar)) (C := R_MM) (T := F_MM) (N := 16) hx hb hts in_MM hown hG.1 hP 0 rfl rfl 14 (by decide) (hts _ wd_397) (fun _ h9 => h9) rfl d_MM_makeFunctions_7 ?_
    refine lv_ishl hx hb d_MM_makeFunctions_10 ?_
    refine mt_ri (y := nI (2 ^ ar)) (mt_shl (by omega)) ?_
    refine lv_icmp_ge (tgt := 82) hx hb d_MM_makeFunctions_11 (by decide) (mt_le (by omega) (by omega) fun hc11 => ?_) (mt_nle (by omega) (by omega) fun hc11 => ?_)
    · ---- 11T
      refine lv_iload_n hx hb d_MM_makeFunctions_82 rfl (lv_at hl 0 rfl) ?_
      exact gc_retwz (u := (X1)) (v := mm) (Wf := fun (u : Nat → Int64) => mW g md J n v kn pr ar u) (post := fun r (u : Nat → Int64) => ∃ q, r = mt_b q ∧ mt_fk ar X u (fun x => ∃ y z, y < (2 ^ ar) ∧ z < 2 ^ ar ∧ mt_ms X 5 y = true ∧ mt_ms X 6 z = true ∧ x = mt_dif y z) q) hx hb hr hlk (⟨mm, rfl, by rw [show q2 = 2 ^ ar by omega] at hm; exact hm⟩) hP hD hS d_MM_makeFunctions_83
    · ---- 11F
      refine lv_iconst (v := nI 0) hx hb d_MM_makeFunctions_14 (by decide) ?_
      refine lv_istore_n (lv' := [(3, .int (nI 0)), (1, .int (mt_b mm)), (2, .int (nI q2)), (0, .ref (md 0))]) hx hb d_MM_makeFunctions_15 rfl hl (by decide) rfl (fun ls hl => ?_)
      have lp16 : ∀ (d : Nat) (m3 : Bool) (q3 : Nat) (X3 : Nat → Int64) (ls : Array Slot) (H : Heap) (locs : List Loc), d = 2 ^ ar - q3 → (q3 ≤ 2 ^ ar) → (mt_fk ar X X3 (fun x => (fun x => ∃ y z, y < q2 ∧ z < 2 ^ ar ∧ mt_ms X 5 y = true ∧ mt_ms X 6 z = true ∧ x = mt_dif y z) x ∨ ∃ z, z < q3 ∧ mt_ms X 5 q2 = true ∧ mt_ms X 6 z = true ∧ x = mt_dif q2 z) m3) → lv_has ls 4 [(1, .int (mt_b m3)), (3, .int (nI q3)), (2, .int (nI q2)), (0, .ref (md 0))] → va_P g.1 gx_cl (mW g md J n v kn pr ar X3) H → va_D (gx_in (mW g md J n v kn pr ar X)) (mW g md J n v kn pr ar X3) → va_S (gx_in (mW g md J n v kn pr ar X)) s.heap H locs → W p l e (gx_rm 3 67) s m ([.ref (md 0)] : List Value).toArray below meth c H locs 0 0 (MQ below (va_Qi (fun r (u : Nat → Int64) => ∃ q, r = mt_b q ∧ mt_fk ar X u (fun x => ∃ y z, y < (2 ^ ar) ∧ z < 2 ^ ar ∧ mt_ms X 5 y = true ∧ mt_ms X 6 z = true ∧ x = mt_dif y z) q) (fun u9 t9 => va_P g.1 gx_cl ((fun (u : Nat → Int64) => mW g md J n v kn pr ar u) u9) t9.heap ∧ va_D (gx_in (mW g md J n v kn pr ar X)) ((fun (u : Nat → Int64) => mW g md J n v kn pr ar u) u9)) (gx_in (mW g md J n v kn pr ar X))) ([.ref (md 0)] : List Value).toArray s 0 0 (gx_in (mW g md J n v kn pr ar X))) (F0 m 16 ls []) := by
        intro d
        induction d using Nat.strongRecOn with
        | ind d ih16 =>
        intro m3 q3 X3 ls H locs hd hq3 hm3 hl hP hD hS
        refine lv_iload_n hx hb d_MM_makeFunctions_16 rfl (lv_at hl 1 rfl) ?_
        refine lv_iconst (v := nI 1) hx hb d_MM_makeFunctions_17 (by decide) ?_
        refine lv_aload_n hx hb d_MM_makeFunctions_18 rfl (lv_at hl 3 rfl) ?_
        refine va_get (D := g.1) (own := R_MM) (ref := R_MM) (ci := 5) (v := .int (nI ar)) (C := R_MM) (T := F_MM) (N := 16) hx hb hts in_MM hown hG.1 hP 0 rfl rfl 14 (by decide) (hts _ wd_397) (fun _ h9 => h9) rfl d_MM_makeFunctions_19 ?_
        refine lv_ishl hx hb d_MM_makeFunctions_22 ?_
        refine mt_ri (y := nI (2 ^ ar)) (mt_shl (by omega)) ?_
        refine lv_icmp_ge (tgt := 76) hx hb d_MM_makeFunctions_23 (by decide) (mt_le (by omega) (by omega) fun hc23 => ?_) (mt_nle (by omega) (by omega) fun hc23 => ?_)
        · ---- 23T
          refine lv_iinc (k := 2) (v := nI (q2 + 1)) (lv' := [(2, .int (nI (q2 + 1))), (1, .int (mt_b m3)), (3, .int (nI q3)), (0, .ref (md 0))]) hx hb d_MM_makeFunctions_76 hl rfl (by rw [lit1]; exact nI_1 _) (by decide) rfl (fun ls hl => ?_)
          refine lv_goto (tgt := 4) hx hb d_MM_makeFunctions_79 (by decide) ?_
          exact ih4 _ (by omega) m3 (q2 + 1) X3 ls _ _ rfl (by omega) (mt_fk_c hm3 (fun x => mt_out' (A := fun y => mt_ms X 5 y = true) (B := fun z => mt_ms X 6 z = true) (f := fun y z => mt_dif y z) (by omega))) (lv_sub hl [1, 0, 3] rfl) hP hD hS
        · ---- 23F
          refine lv_aload_n hx hb d_MM_makeFunctions_26 rfl (lv_at hl 3 rfl) ?_
          refine lv_sipush (v := nI 640) hx hb d_MM_makeFunctions_27 (by decide) ?_
          refine lv_iload_n hx hb d_MM_makeFunctions_30 rfl (lv_at hl 2 rfl) ?_
          refine vp_callSi (va_runV (own := R_MM) (As := [.int (nI 640), .int (nI q2)]) (rest := []) ⟨hx, hb, hml, hown, hts⟩ (c_MM_has (l := l) (g := g) (md := md) (J := J) (n := n) (v := v) (kn := kn) (pr := pr) (ar := ar) (X := X3) (s0 := 640) (cc := 5) (i := q2) (by omega) (by omega) (by omega)) (cwV 2 hts (gx_goodV wd_500 wd_502 ws_20 wd_7 wd_503) rfl rfl rfl (by decide +kernel) ⟨Nat.le_of_ble_eq_true rfl, Nat.le_of_ble_eq_true rfl⟩) (gc_preV (gc_recv hP hG (ci := 5) rfl (q0 := 0) rfl) hP hG) rfl rfl hl.1 rfl (lv_room (Nat.le_of_ble_eq_true rfl)) d_MM_makeFunctions_31 ⟨Nat.le_refl _, Nat.le_refl _⟩).run (fun r hr31 => ?_)
          subst hr31
          refine lv_if_eq (tgt := 76) hx hb d_MM_makeFunctions_34 (by decide) (mt_z fun hc34 => ?_) (mt_nz fun hc34 => ?_)
          · ---- 23F 34T
            refine lv_iinc (k := 2) (v := nI (q2 + 1)) (lv' := [(2, .int (nI (q2 + 1))), (1, .int (mt_b m3)), (3, .int (nI q3)), (0, .ref (md 0))]) hx hb d_MM_makeFunctions_76 hl rfl (by rw [lit1]; exact nI_1 _) (by decide) rfl (fun ls hl => ?_)
            refine lv_goto (tgt := 4) hx hb d_MM_makeFunctions_79 (by decide) ?_
            exact ih4 _ (by omega) m3 (q2 + 1) X3 ls _ _ rfl (by omega) (mt_fk_c hm3 (fun x => mt_out_n (A := fun y => mt_ms X 5 y = true) (B := fun z => mt_ms X 6 z = true) (f := fun y z => mt_dif y z) (by rw [← hm3.1 5 q2 (by omega) (by decide), hc34]; decide))) (lv_sub hl [1, 0, 3] rfl) hP hD hS
          · ---- 23F 34F
            refine lv_aload_n hx hb d_MM_makeFunctions_37 rfl (lv_at hl 3 rfl) ?_
            refine lv_sipush (v := nI 768) hx hb d_MM_makeFunctions_38 (by decide) ?_
            refine lv_iload_n hx hb d_MM_makeFunctions_41 rfl (lv_at hl 1 rfl) ?_
            refine vp_callSi (va_runV (own := R_MM) (As := [.int (nI 768), .int (nI q3)]) (rest := []) ⟨hx, hb, hml, hown, hts⟩ (c_MM_has (l := l) (g := g) (md := md) (J := J) (n := n) (v := v) (kn := kn) (pr := pr) (ar := ar) (X := X3) (s0 := 768) (cc := 6) (i := q3) (by omega) (by omega) (by omega)) (cwV 2 hts (gx_goodV wd_500 wd_502 ws_20 wd_7 wd_503) rfl rfl rfl (by decide +kernel) ⟨Nat.le_of_ble_eq_true rfl, Nat.le_of_ble_eq_true rfl⟩) (gc_preV (gc_recv hP hG (ci := 5) rfl (q0 := 0) rfl) hP hG) rfl rfl hl.1 rfl (lv_room (Nat.le_of_ble_eq_true rfl)) d_MM_makeFunctions_42 ⟨Nat.le_refl _, Nat.le_refl _⟩).run (fun r hr42 => ?_)
            subst hr42
            refine lv_if_eq (tgt := 70) hx hb d_MM_makeFunctions_45 (by decide) (mt_z fun hc45 => ?_) (mt_nz fun hc45 => ?_)
            · ---- 23F 34F 45T
              refine lv_iinc (k := 1) (v := nI (q3 + 1)) (lv' := [(3, .int (nI (q3 + 1))), (1, .int (mt_b m3)), (2, .int (nI q2)), (0, .ref (md 0))]) hx hb d_MM_makeFunctions_70 hl rfl (by rw [lit1]; exact nI_1 _) (by decide) rfl (fun ls hl => ?_)
              refine lv_goto (tgt := 16) hx hb d_MM_makeFunctions_73 (by decide) ?_
              exact ih16 _ (by omega) m3 (q3 + 1) X3 ls _ _ rfl (by omega) (mt_fk_c hm3 (fun x => mt_inn_n (A := fun y => mt_ms X 5 y = true) (B := fun z => mt_ms X 6 z = true) (f := fun y z => mt_dif y z) (by rw [← hm3.1 6 q3 (by omega) (by decide), hc45]; decide))) (lv_sub hl [1, 0, 2, 3] rfl) hP hD hS
            · ---- 23F 34F 45F
              refine lv_aload_n hx hb d_MM_makeFunctions_48 rfl (lv_at hl 3 rfl) ?_
              refine lv_iload_n hx hb d_MM_makeFunctions_49 rfl (lv_at hl 2 rfl) ?_
              refine lv_iload_n hx hb d_MM_makeFunctions_50 rfl (lv_at hl 1 rfl) ?_
              refine lv_iconst (v := -1) hx hb d_MM_makeFunctions_51 (by decide) ?_
              refine lv_ixor hx hb d_MM_makeFunctions_52 ?_
              refine lv_iand hx hb d_MM_makeFunctions_53 ?_
              refine mt_ri (y := nI (mt_dif q2 q3)) (mt_andn _ _) ?_
              refine gc_cwi (va_runV (own := R_MM) (As := [.int (nI (mt_dif q2 q3))]) (rest := []) ⟨hx, hb, hml, hown, hts⟩ (c_MM_addStep (l := l) (g := g) (md := md) (J := J) (n := n) (v := v) (kn := kn) (pr := pr) (ar := ar) (X := X3) (sx := mt_dif q2 q3) (by omega) (by exact Nat.lt_of_le_of_lt (mt_dif_le q2 q3) (by omega)) (by exact hm3.2.1)) (cwV 1 hts (gx_goodV wd_528 wd_530 ws_27 wd_7 wd_531) rfl rfl rfl (by decide +kernel) ⟨Nat.le_of_ble_eq_true rfl, Nat.le_of_ble_eq_true rfl⟩) (gc_preVW (gc_recv hP hG (ci := 5) rfl (q0 := 0) rfl) hP hG hD) rfl rfl hl.1 rfl (lv_room (Nat.le_of_ble_eq_true rfl)) d_MM_makeFunctions_54 ⟨Nat.le_refl _, Nat.le_refl _⟩) hD hS (fun r54 X54 H locs hr54 hP hD hS => ?_)
              obtain ⟨z54, hr8, hz54⟩ := hr54
              subst hr8
              have hP : va_P g.1 gx_cl (mW g md J n v kn pr ar X54) H := hP
              have hD : va_D (gx_in (mW g md J n v kn pr ar X)) (mW g md J n v kn pr ar X54) := hD
              refine lv_if_ne (tgt := 64) hx hb d_MM_makeFunctions_57 (by decide) (mt_nz fun hc57 => ?_) (mt_z fun hc57 => ?_)
              · ---- 23F 34F 45F 57T
                refine lv_iconst (v := nI 1) hx hb d_MM_makeFunctions_64 (by decide) ?_
                refine lv_goto (tgt := 69) hx hb d_MM_makeFunctions_65 (by decide) ?_
                refine lv_istore_n (lv' := [(1, .int (nI 1)), (3, .int (nI q3)), (2, .int (nI q2)), (0, .ref (md 0))]) hx hb d_MM_makeFunctions_69 rfl hl (by decide) rfl (fun ls hl => ?_)
                refine lv_iinc (k := 1) (v := nI (q3 + 1)) (lv' := [(3, .int (nI (q3 + 1))), (1, .int (nI 1)), (2, .int (nI q2)), (0, .ref (md 0))]) hx hb d_MM_makeFunctions_70 hl rfl (by rw [lit1]; exact nI_1 _) (by decide) rfl (fun ls hl => ?_)
                refine lv_goto (tgt := 16) hx hb d_MM_makeFunctions_73 (by decide) ?_
                exact ih16 _ (by omega) true (q3 + 1) X54 ls _ _ rfl (by omega) (mt_fk_c (mt_fk_s hm3 har2.2 (Nat.lt_of_le_of_lt (mt_dif_le q2 q3) (by omega)) hz54 (by rw [hc57]; rfl)) (fun x => mt_inn (A := fun y => mt_ms X 5 y = true) (B := fun z => mt_ms X 6 z = true) (f := fun y z => mt_dif y z) (by rw [← hm3.1 5 q2 (by omega) (by decide)]; exact hc34) (by rw [← hm3.1 6 q3 (by omega) (by decide)]; exact hc45))) (lv_sub hl [1, 0, 2, 3] rfl) hP hD hS
              · ---- 23F 34F 45F 57F
                refine lv_iload_n hx hb d_MM_makeFunctions_60 rfl (lv_at hl 0 rfl) ?_
                refine lv_if_eq (tgt := 68) hx hb d_MM_makeFunctions_61 (by decide) (mt_z fun hc61 => ?_) (mt_nz fun hc61 => ?_)
                · ---- 23F 34F 45F 57F 61T
                  refine lv_iconst (v := nI 0) hx hb d_MM_makeFunctions_68 (by decide) ?_
                  refine lv_istore_n (lv' := [(1, .int (nI 0)), (3, .int (nI q3)), (2, .int (nI q2)), (0, .ref (md 0))]) hx hb d_MM_makeFunctions_69 rfl hl (by decide) rfl (fun ls hl => ?_)
                  refine lv_iinc (k := 1) (v := nI (q3 + 1)) (lv' := [(3, .int (nI (q3 + 1))), (1, .int (nI 0)), (2, .int (nI q2)), (0, .ref (md 0))]) hx hb d_MM_makeFunctions_70 hl rfl (by rw [lit1]; exact nI_1 _) (by decide) rfl (fun ls hl => ?_)
                  refine lv_goto (tgt := 16) hx hb d_MM_makeFunctions_73 (by decide) ?_
                  exact ih16 _ (by omega) false (q3 + 1) X54 ls _ _ rfl (by omega) (mt_fk_c (mt_fk_s hm3 har2.2 (Nat.lt_of_le_of_lt (mt_dif_le q2 q3) (by omega)) hz54 (by rw [hc57, hc61]; rfl)) (fun x => mt_inn (A := fun y => mt_ms X 5 y = true) (B := fun z => mt_ms X 6 z = true) (f := fun y z => mt_dif y z) (by rw [← hm3.1 5 q2 (by omega) (by decide)]; exact hc34) (by rw [← hm3.1 6 q3 (by omega) (by decide)]; exact hc45))) (lv_sub hl [1, 0, 2, 3] rfl) hP hD hS
                · ---- 23F 34F 45F 57F 61F
                  refine lv_iconst (v := nI 1) hx hb d_MM_makeFunctions_64 (by decide) ?_
                  refine lv_goto (tgt := 69) hx hb d_MM_makeFunctions_65 (by decide) ?_
                  refine lv_istore_n (lv' := [(1, .int (nI 1)), (3, .int (nI q3)), (2, .int (nI q2)), (0, .ref (md 0))]) hx hb d_MM_makeFunctions_69 rfl hl (by decide) rfl (fun ls hl => ?_)
                  refine lv_iinc (k := 1) (v := nI (q3 + 1)) (lv' := [(3, .int (nI (q3 + 1))), (1, .int (nI 1)), (2, .int (nI q2)), (0, .ref (md 0))]) hx hb d_MM_makeFunctions_70 hl rfl (by rw [lit1]; exact nI_1 _) (by decide) rfl (fun ls hl => ?_)
                  refine lv_goto (tgt := 16) hx hb d_MM_makeFunctions_73 (by decide) ?_
                  exact ih16 _ (by omega) true (q3 + 1) X54 ls _ _ rfl (by omega) (mt_fk_c (mt_fk_s hm3 har2.2 (Nat.lt_of_le_of_lt (mt_dif_le q2 q3) (by omega)) hz54 (by rw [hc57, hc61]; rfl)) (fun x => mt_inn (A := fun y => mt_ms X 5 y = true) (B := fun z => mt_ms X 6 z = true) (f := fun y z => mt_dif y z) (by rw [← hm3.1 5 q2 (by omega) (by decide)]; exact hc34) (by rw [← hm3.1 6 q3 (by omega) (by decide)]; exact hc45))) (lv_sub hl [1, 0, 2, 3] rfl) hP hD hS
      exact lp16 _ mm 0 X1 ls _ _ rfl (Nat.zero_le _) (mt_fk_c hm (fun x => ⟨Or.inl, fun h9 => h9.elim id (fun ⟨z, h8, _⟩ => absurd h8 (by omega))⟩)) (lv_sub hl [1, 0, 2, 3] rfl) hP hD hS
  exact lp4 _ false 0 X ls _ _ rfl (Nat.zero_le _) (mt_fk_0 hcs (fun x h9 => by obtain ⟨y, z, h8, _⟩ := h9; omega)) (lv_sub hl [1, 0, 2] rfl) hP hD hS
