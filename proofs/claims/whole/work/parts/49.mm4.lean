set_option maxHeartbeats 4000000 in
set_option maxRecDepth 100000 in
theorem c_MM_enter {g : gG} {md : Nat → Nat} {J : Nat → Nat → Int32} {n v kn pr ar : Nat} {X : Nat → Int64} {k a b : Nat → Nat} {nn rw : Nat} {X0 : Nat → Int64} {Rw : Nat → Prop} {l : Launch} (hT : mt_MT J nn k a b) (hn13 : nn ≤ 13) (hw : mt_wf k a b nn) (hN : mt_NU J pr ar nn k) (hco : mt_co X0 X k a b nn Rw False) (hrw : rw < 8192) :
    gc_RV (S := Nat → Int64) l y_MM_enter (gx_ws y_MM_enter b_MM_enter 3 none) 2 45 g [.ref (md 0), .int (nI nn), .int (nI rw)] (mW g md J n v kn pr ar X) (fun (u : Nat → Int64) => mW g md J n v kn pr ar u) (fun (u : Nat → Int64) => mt_co X0 u k a b nn (fun z => Rw z ∨ z = rw) False) := by
  refine gx_body (by decide) (Nat.le_of_ble_eq_true rfl) ?_
  intro p e s m below meth c ls hAt hB hl
  obtain ⟨hx, hb, hml, hown, hts, hr, hlk, hnm⟩ := hAt
  have hown : s.vm.findClass R_MM = some m.cls := hown
  obtain ⟨⟨hP, hG⟩, hD0⟩ := hB
  have hD := gx_D.self hD0
  have hS : va_S (gx_in (mW g md J n v kn pr ar X)) s.heap s.heap [] := va_S.rf
  have hl : lv_has ls 3 [(0, .ref (md 0)), (1, .int (nI nn)), (2, .int (nI rw))] := hl
  refine lv_aload_n hx hb d_MM_enter_0 rfl (lv_at hl 0 rfl) ?_
  refine lv_iconst (v := nI 0) hx hb d_MM_enter_1 (by decide) ?_
  refine lv_iload_n hx hb d_MM_enter_2 rfl (lv_at hl 2 rfl) ?_
  refine gc_cwi (va_runV (own := R_MM) (As := [.int (nI 0), .int (nI rw)]) (rest := []) ⟨hx, hb, hml, hown, hts⟩ (c_MM_put (l := l) (g := g) (md := md) (J := J) (n := n) (v := v) (kn := kn) (pr := pr) (ar := ar) (X := X) (s0 := 0) (cc := 0) (i := rw) (by omega) (by omega) (by omega)) (cwV 2 hts (gx_goodV wd_496 wd_498 ws_19 wd_7 wd_499) rfl rfl rfl (by decide +kernel) ⟨Nat.le_of_ble_eq_true rfl, Nat.le_of_ble_eq_true rfl⟩) (gc_preVW (gc_recv hP hG (ci := 5) rfl (q0 := 0) rfl) hP hG hD) rfl rfl hl.1 rfl (lv_room (Nat.le_of_ble_eq_true rfl)) d_MM_enter_3 ⟨Nat.le_refl _, Nat.le_refl _⟩) hD hS (fun r3 X3 H locs hr3 hP hD hS => ?_)
  obtain ⟨hr3, hx3⟩ := hr3
  subst hr3
  have hP : va_P g.1 gx_cl (mW g md J n v kn pr ar X3) H := hP
  have hD : va_D (gx_in (mW g md J n v kn pr ar X)) (mW g md J n v kn pr ar X3) := hD
  refine lv_if_ne (tgt := 10) hx hb d_MM_enter_6 (by decide) (mt_nz fun hc6 => ?_) (mt_z fun hc6 => ?_)
  · ---- 6T
    refine lv_aload_n hx hb d_MM_enter_10 rfl (lv_at hl 0 rfl) ?_
    refine lv_sipush (v := nI 384) hx hb d_MM_enter_11 (by decide) ?_
    refine lv_aload_n hx hb d_MM_enter_14 rfl (lv_at hl 0 rfl) ?_
    refine lv_iload_n hx hb d_MM_enter_15 rfl (lv_at hl 1 rfl) ?_
    refine lv_iconst (v := nI 1) hx hb d_MM_enter_16 (by decide) ?_
    refine lv_iconst (v := nI 1) hx hb d_MM_enter_17 (by decide) ?_
    refine lv_iload_n hx hb d_MM_enter_18 rfl (lv_at hl 2 rfl) ?_
    refine vp_callSi (va_runV (own := R_MM) (As := [.int (nI nn), .int (nI 1), .int (nI 1), .int (nI rw)]) (rest := [.int (nI 384), .ref (md 0)]) ⟨hx, hb, hml, hown, hts⟩ (c_MM_parts1 (l := l) (g := g) (md := md) (J := J) (n := n) (v := v) (kn := kn) (pr := pr) (ar := ar) (X := X3) (k := k) (a := a) (b := b) (nn := nn) (kk := 1) (rw := rw) hT hn13 hw hN (by decide) (by omega)) (cwV 4 hts (gx_goodV wd_516 wd_518 ws_24 wd_7 wd_519) rfl rfl rfl (by decide +kernel) ⟨Nat.le_of_ble_eq_true rfl, Nat.le_of_ble_eq_true rfl⟩) (gc_preV (gc_recv hP hG (ci := 5) rfl (q0 := 0) rfl) hP hG) rfl rfl hl.1 rfl (lv_room (Nat.le_of_ble_eq_true rfl)) d_MM_enter_19 ⟨Nat.le_refl _, Nat.le_refl _⟩).run (fun r hr19 => ?_)
    subst hr19
    refine gc_cwi (va_runV (own := R_MM) (As := [.int (nI 384), .int (nI (mt_cz k 1 (fun t => Nat.testBit rw (a t)) nn))]) (rest := []) ⟨hx, hb, hml, hown, hts⟩ (c_MM_put (l := l) (g := g) (md := md) (J := J) (n := n) (v := v) (kn := kn) (pr := pr) (ar := ar) (X := X3) (s0 := 384) (cc := 3) (i := mt_cz k 1 (fun t => Nat.testBit rw (a t)) nn) (by omega) (by omega) (by exact mt_lt13 (mt_cz_lt (k := k) (w := 1)) (Nat.le_trans (mt_ct_n nn) hn13))) (cwV 2 hts (gx_goodV wd_496 wd_498 ws_19 wd_7 wd_499) rfl rfl rfl (by decide +kernel) ⟨Nat.le_of_ble_eq_true rfl, Nat.le_of_ble_eq_true rfl⟩) (gc_preVW (gc_recv hP hG (ci := 5) rfl (q0 := 0) rfl) hP hG hD) rfl rfl hl.1 rfl (lv_room (Nat.le_of_ble_eq_true rfl)) d_MM_enter_22 ⟨Nat.le_refl _, Nat.le_refl _⟩) hD hS (fun r22 X22 H locs hr22 hP hD hS => ?_)
    obtain ⟨hr22, hx22⟩ := hr22
    subst hr22
    have hP : va_P g.1 gx_cl (mW g md J n v kn pr ar X22) H := hP
    have hD : va_D (gx_in (mW g md J n v kn pr ar X)) (mW g md J n v kn pr ar X22) := hD
    refine lv_pop hx hb d_MM_enter_25 rfl ?_
    refine lv_aload_n hx hb d_MM_enter_26 rfl (lv_at hl 0 rfl) ?_
    refine lv_sipush (v := nI 512) hx hb d_MM_enter_27 (by decide) ?_
    refine lv_aload_n hx hb d_MM_enter_30 rfl (lv_at hl 0 rfl) ?_
    refine lv_iload_n hx hb d_MM_enter_31 rfl (lv_at hl 1 rfl) ?_
    refine lv_iconst (v := nI 1) hx hb d_MM_enter_32 (by decide) ?_
    refine lv_iconst (v := nI 0) hx hb d_MM_enter_33 (by decide) ?_
    refine lv_iload_n hx hb d_MM_enter_34 rfl (lv_at hl 2 rfl) ?_
    refine vp_callSi (va_runV (own := R_MM) (As := [.int (nI nn), .int (nI 1), .int (nI 0), .int (nI rw)]) (rest := [.int (nI 512), .ref (md 0)]) ⟨hx, hb, hml, hown, hts⟩ (c_MM_parts0 (l := l) (g := g) (md := md) (J := J) (n := n) (v := v) (kn := kn) (pr := pr) (ar := ar) (X := X22) (k := k) (a := a) (b := b) (nn := nn) (kk := 1) (rw := rw) hT hn13 hw hN (by decide) (by omega)) (cwV 4 hts (gx_goodV wd_516 wd_518 ws_24 wd_7 wd_519) rfl rfl rfl (by decide +kernel) ⟨Nat.le_of_ble_eq_true rfl, Nat.le_of_ble_eq_true rfl⟩) (gc_preV (gc_recv hP hG (ci := 5) rfl (q0 := 0) rfl) hP hG) rfl rfl hl.1 rfl (lv_room (Nat.le_of_ble_eq_true rfl)) d_MM_enter_35 ⟨Nat.le_refl _, Nat.le_refl _⟩).run (fun r hr35 => ?_)
    subst hr35
    refine gc_cwi (va_runV (own := R_MM) (As := [.int (nI 512), .int (nI (mt_cz k 1 (fun t => Nat.testBit rw (b t)) nn))]) (rest := []) ⟨hx, hb, hml, hown, hts⟩ (c_MM_put (l := l) (g := g) (md := md) (J := J) (n := n) (v := v) (kn := kn) (pr := pr) (ar := ar) (X := X22) (s0 := 512) (cc := 4) (i := mt_cz k 1 (fun t => Nat.testBit rw (b t)) nn) (by omega) (by omega) (by exact mt_lt13 (mt_cz_lt (k := k) (w := 1)) (Nat.le_trans (mt_ct_n nn) hn13))) (cwV 2 hts (gx_goodV wd_496 wd_498 ws_19 wd_7 wd_499) rfl rfl rfl (by decide +kernel) ⟨Nat.le_of_ble_eq_true rfl, Nat.le_of_ble_eq_true rfl⟩) (gc_preVW (gc_recv hP hG (ci := 5) rfl (q0 := 0) rfl) hP hG hD) rfl rfl hl.1 rfl (lv_room (Nat.le_of_ble_eq_true rfl)) d_MM_enter_38 ⟨Nat.le_refl _, Nat.le_refl _⟩) hD hS (fun r38 X38 H locs hr38 hP hD hS => ?_)
    obtain ⟨hr38, hx38⟩ := hr38
    subst hr38
    have hP : va_P g.1 gx_cl (mW g md J n v kn pr ar X38) H := hP
    have hD : va_D (gx_in (mW g md J n v kn pr ar X)) (mW g md J n v kn pr ar X38) := hD
    refine lv_pop hx hb d_MM_enter_41 rfl ?_
    refine lv_aload_n hx hb d_MM_enter_42 rfl (lv_at hl 0 rfl) ?_
    refine lv_sipush (v := nI 640) hx hb d_MM_enter_43 (by decide) ?_
    refine lv_aload_n hx hb d_MM_enter_46 rfl (lv_at hl 0 rfl) ?_
    refine lv_iload_n hx hb d_MM_enter_47 rfl (lv_at hl 1 rfl) ?_
    refine lv_iconst (v := nI 2) hx hb d_MM_enter_48 (by decide) ?_
    refine lv_iconst (v := nI 1) hx hb d_MM_enter_49 (by decide) ?_
    refine lv_iload_n hx hb d_MM_enter_50 rfl (lv_at hl 2 rfl) ?_
    refine vp_callSi (va_runV (own := R_MM) (As := [.int (nI nn), .int (nI 2), .int (nI 1), .int (nI rw)]) (rest := [.int (nI 640), .ref (md 0)]) ⟨hx, hb, hml, hown, hts⟩ (c_MM_parts1 (l := l) (g := g) (md := md) (J := J) (n := n) (v := v) (kn := kn) (pr := pr) (ar := ar) (X := X38) (k := k) (a := a) (b := b) (nn := nn) (kk := 2) (rw := rw) hT hn13 hw hN (by decide) (by omega)) (cwV 4 hts (gx_goodV wd_516 wd_518 ws_24 wd_7 wd_519) rfl rfl rfl (by decide +kernel) ⟨Nat.le_of_ble_eq_true rfl, Nat.le_of_ble_eq_true rfl⟩) (gc_preV (gc_recv hP hG (ci := 5) rfl (q0 := 0) rfl) hP hG) rfl rfl hl.1 rfl (lv_room (Nat.le_of_ble_eq_true rfl)) d_MM_enter_51 ⟨Nat.le_refl _, Nat.le_refl _⟩).run (fun r hr51 => ?_)
    subst hr51
    refine gc_cwi (va_runV (own := R_MM) (As := [.int (nI 640), .int (nI (mt_cz k 2 (fun t => Nat.testBit rw (a t)) nn))]) (rest := []) ⟨hx, hb, hml, hown, hts⟩ (c_MM_put (l := l) (g := g) (md := md) (J := J) (n := n) (v := v) (kn := kn) (pr := pr) (ar := ar) (X := X38) (s0 := 640) (cc := 5) (i := mt_cz k 2 (fun t => Nat.testBit rw (a t)) nn) (by omega) (by omega) (by exact mt_lt13 (mt_cz_lt (k := k) (w := 2)) (Nat.le_trans (mt_ct_n nn) hn13))) (cwV 2 hts (gx_goodV wd_496 wd_498 ws_19 wd_7 wd_499) rfl rfl rfl (by decide +kernel) ⟨Nat.le_of_ble_eq_true rfl, Nat.le_of_ble_eq_true rfl⟩) (gc_preVW (gc_recv hP hG (ci := 5) rfl (q0 := 0) rfl) hP hG hD) rfl rfl hl.1 rfl (lv_room (Nat.le_of_ble_eq_true rfl)) d_MM_enter_54 ⟨Nat.le_refl _, Nat.le_refl _⟩) hD hS (fun r54 X54 H locs hr54 hP hD hS => ?_)
    obtain ⟨hr54, hx54⟩ := hr54
    subst hr54
    have hP : va_P g.1 gx_cl (mW g md J n v kn pr ar X54) H := hP
    have hD : va_D (gx_in (mW g md J n v kn pr ar X)) (mW g md J n v kn pr ar X54) := hD
    refine lv_pop hx hb d_MM_enter_57 rfl ?_
    refine lv_aload_n hx hb d_MM_enter_58 rfl (lv_at hl 0 rfl) ?_
    refine lv_sipush (v := nI 768) hx hb d_MM_enter_59 (by decide) ?_
    refine lv_aload_n hx hb d_MM_enter_62 rfl (lv_at hl 0 rfl) ?_
    refine lv_iload_n hx hb d_MM_enter_63 rfl (lv_at hl 1 rfl) ?_
    refine lv_iconst (v := nI 2) hx hb d_MM_enter_64 (by decide) ?_
    refine lv_iconst (v := nI 0) hx hb d_MM_enter_65 (by decide) ?_
    refine lv_iload_n hx hb d_MM_enter_66 rfl (lv_at hl 2 rfl) ?_
    refine vp_callSi (va_runV (own := R_MM) (As := [.int (nI nn), .int (nI 2), .int (nI 0), .int (nI rw)]) (rest := [.int (nI 768), .ref (md 0)]) ⟨hx, hb, hml, hown, hts⟩ (c_MM_parts0 (l := l) (g := g) (md := md) (J := J) (n := n) (v := v) (kn := kn) (pr := pr) (ar := ar) (X := X54) (k := k) (a := a) (b := b) (nn := nn) (kk := 2) (rw := rw) hT hn13 hw hN (by decide) (by omega)) (cwV 4 hts (gx_goodV wd_516 wd_518 ws_24 wd_7 wd_519) rfl rfl rfl (by decide +kernel) ⟨Nat.le_of_ble_eq_true rfl, Nat.le_of_ble_eq_true rfl⟩) (gc_preV (gc_recv hP hG (ci := 5) rfl (q0 := 0) rfl) hP hG) rfl rfl hl.1 rfl (lv_room (Nat.le_of_ble_eq_true rfl)) d_MM_enter_67 ⟨Nat.le_refl _, Nat.le_refl _⟩).run (fun r hr67 => ?_)
    subst hr67
    refine gc_cwi (va_runV (own := R_MM) (As := [.int (nI 768), .int (nI (mt_cz k 2 (fun t => Nat.testBit rw (b t)) nn))]) (rest := []) ⟨hx, hb, hml, hown, hts⟩ (c_MM_put (l := l) (g := g) (md := md) (J := J) (n := n) (v := v) (kn := kn) (pr := pr) (ar := ar) (X := X54) (s0 := 768) (cc := 6) (i := mt_cz k 2 (fun t => Nat.testBit rw (b t)) nn) (by omega) (by omega) (by exact mt_lt13 (mt_cz_lt (k := k) (w := 2)) (Nat.le_trans (mt_ct_n nn) hn13))) (cwV 2 hts (gx_goodV wd_496 wd_498 ws_19 wd_7 wd_499) rfl rfl rfl (by decide +kernel) ⟨Nat.le_of_ble_eq_true rfl, Nat.le_of_ble_eq_true rfl⟩) (gc_preVW (gc_recv hP hG (ci := 5) rfl (q0 := 0) rfl) hP hG hD) rfl rfl hl.1 rfl (lv_room (Nat.le_of_ble_eq_true rfl)) d_MM_enter_70 ⟨Nat.le_refl _, Nat.le_refl _⟩) hD hS (fun r70 X70 H locs hr70 hP hD hS => ?_)
    obtain ⟨hr70, hx70⟩ := hr70
    subst hr70
    have hP : va_P g.1 gx_cl (mW g md J n v kn pr ar X70) H := hP
    have hD : va_D (gx_in (mW g md J n v kn pr ar X)) (mW g md J n v kn pr ar X70) := hD
    refine lv_pop hx hb d_MM_enter_73 rfl ?_
    exact gc_retv (u := (X70)) (Wf := fun (u : Nat → Int64) => mW g md J n v kn pr ar u) (post := fun (u : Nat → Int64) => mt_co X0 u k a b nn (fun z => Rw z ∨ z = rw) False) hx hb hr hlk (mt_co_new hco hrw hx3 hx22 hx38 hx54 hx70) hP hD hS d_MM_enter_74
  · ---- 6F
    exact gc_retv (u := (X3)) (Wf := fun (u : Nat → Int64) => mW g md J n v kn pr ar u) (post := fun (u : Nat → Int64) => mt_co X0 u k a b nn (fun z => Rw z ∨ z = rw) False) hx hb hr hlk (mt_co_old hco hrw (by cases h9 : mt_ms X 0 rw; rw [h9] at hc6; cases hc6; rfl) hx3) hP hD hS d_MM_enter_9
