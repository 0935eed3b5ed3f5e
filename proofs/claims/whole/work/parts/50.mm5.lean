set_option maxHeartbeats 4000000 in
set_option maxRecDepth 100000 in
theorem c_MM_collect {g : gG} {md : Nat → Nat} {J : Nat → Nat → Int32} {n v kn pr ar : Nat} {X : Nat → Int64} {k a b : Nat → Nat} {nn : Nat} {l : Launch} (hT : mt_MT J nn k a b) (hn13 : nn ≤ 13) (hw : mt_wf k a b nn) (hN : mt_NU J pr ar nn k) :
    gc_RV (S := Nat → Int64) l y_MM_collect (gx_ws y_MM_collect b_MM_collect 3 none) 3 67 g [.ref (md 0), .int (nI nn)] (mW g md J n v kn pr ar X) (fun (u : Nat → Int64) => mW g md J n v kn pr ar u) (fun (u : Nat → Int64) => mt_co X u k a b nn (mt_rows X k a b nn pr ar) True) := by
  refine gx_body (by decide) (Nat.le_of_ble_eq_true rfl) ?_
  intro p e s m below meth c ls hAt hB hl
  obtain ⟨hx, hb, hml, hown, hts, hr, hlk, hnm⟩ := hAt
  have hown : s.vm.findClass R_MM = some m.cls := hown
  obtain ⟨⟨hP, hG⟩, hD0⟩ := hB
  have hD := gx_D.self hD0
  have hS : va_S (gx_in (mW g md J n v kn pr ar X)) s.heap s.heap [] := va_S.rf
  have hl : lv_has ls 3 [(0, .ref (md 0)), (1, .int (nI nn))] := hl
  have hpr0 := mt_ct_n (k := k) (w := 1) nn
  have har0 := mt_ct_n (k := k) (w := 2) nn
  have hpr9 := hN.1
  have har9 := hN.2.1
  have hpr2 := mt_p13 (b := pr) (by omega)
  have har2 := mt_p13 (b := ar) (by omega)
  refine lv_aload_n hx hb d_MM_collect_0 rfl (lv_at hl 0 rfl) ?_
  refine lv_iconst (v := nI 0) hx hb d_MM_collect_1 (by decide) ?_
  refine gc_cwv (va_runV (own := R_MM) (As := [.int (nI 0)]) (rest := []) ⟨hx, hb, hml, hown, hts⟩ (c_MM_clear (l := l) (g := g) (md := md) (J := J) (n := n) (v := v) (kn := kn) (pr := pr) (ar := ar) (X := X) (s0 := 0) (cc := 0) (by omega) (by omega)) (cwV 1 hts (gx_goodV wd_492 wd_494 ws_18 wd_7 wd_495) rfl rfl rfl (by decide +kernel) ⟨Nat.le_of_ble_eq_true rfl, Nat.le_of_ble_eq_true rfl⟩) (gc_preVW (gc_recv hP hG (ci := 5) rfl (q0 := 0) rfl) hP hG hD) rfl rfl hl.1 rfl (lv_room (Nat.le_of_ble_eq_true rfl)) d_MM_collect_2 ⟨Nat.le_refl _, Nat.le_refl _⟩) hD hS (fun X2 H locs hx2 hP hD hS => ?_)
  have hP : va_P g.1 gx_cl (mW g md J n v kn pr ar X2) H := hP
  have hD : va_D (gx_in (mW g md J n v kn pr ar X)) (mW g md J n v kn pr ar X2) := hD
  refine lv_aload_n hx hb d_MM_collect_5 rfl (lv_at hl 0 rfl) ?_
  refine lv_sipush (v := nI 384) hx hb d_MM_collect_6 (by decide) ?_
  refine gc_cwv (va_runV (own := R_MM) (As := [.int (nI 384)]) (rest := []) ⟨hx, hb, hml, hown, hts⟩ (c_MM_clear (l := l) (g := g) (md := md) (J := J) (n := n) (v := v) (kn := kn) (pr := pr) (ar := ar) (X := X2) (s0 := 384) (cc := 3) (by omega) (by omega)) (cwV 1 hts (gx_goodV wd_492 wd_494 ws_18 wd_7 wd_495) rfl rfl rfl (by decide +kernel) ⟨Nat.le_of_ble_eq_true rfl, Nat.le_of_ble_eq_true rfl⟩) (gc_preVW (gc_recv hP hG (ci := 5) rfl (q0 := 0) rfl) hP hG hD) rfl rfl hl.1 rfl (lv_room (Nat.le_of_ble_eq_true rfl)) d_MM_collect_9 ⟨Nat.le_refl _, Nat.le_refl _⟩) hD hS (fun X9 H locs hx9 hP hD hS => ?_)
  have hP : va_P g.1 gx_cl (mW g md J n v kn pr ar X9) H := hP
  have hD : va_D (gx_in (mW g md J n v kn pr ar X)) (mW g md J n v kn pr ar X9) := hD
  refine lv_aload_n hx hb d_MM_collect_12 rfl (lv_at hl 0 rfl) ?_
  refine lv_sipush (v := nI 512) hx hb d_MM_collect_13 (by decide) ?_
  refine gc_cwv (va_runV (own := R_MM) (As := [.int (nI 512)]) (rest := []) ⟨hx, hb, hml, hown, hts⟩ (c_MM_clear (l := l) (g := g) (md := md) (J := J) (n := n) (v := v) (kn := kn) (pr := pr) (ar := ar) (X := X9) (s0 := 512) (cc := 4) (by omega) (by omega)) (cwV 1 hts (gx_goodV wd_492 wd_494 ws_18 wd_7 wd_495) rfl rfl rfl (by decide +kernel) ⟨Nat.le_of_ble_eq_true rfl, Nat.le_of_ble_eq_true rfl⟩) (gc_preVW (gc_recv hP hG (ci := 5) rfl (q0 := 0) rfl) hP hG hD) rfl rfl hl.1 rfl (lv_room (Nat.le_of_ble_eq_true rfl)) d_MM_collect_16 ⟨Nat.le_refl _, Nat.le_refl _⟩) hD hS (fun X16 H locs hx16 hP hD hS => ?_)
  have hP : va_P g.1 gx_cl (mW g md J n v kn pr ar X16) H := hP
  have hD : va_D (gx_in (mW g md J n v kn pr ar X)) (mW g md J n v kn pr ar X16) := hD
  refine lv_aload_n hx hb d_MM_collect_19 rfl (lv_at hl 0 rfl) ?_
  refine lv_sipush (v := nI 640) hx hb d_MM_collect_20 (by decide) ?_
  refine gc_cwv (va_runV (own := R_MM) (As := [.int (nI 640)]) (rest := []) ⟨hx, hb, hml, hown, hts⟩ (c_MM_clear (l := l) (g := g) (md := md) (J := J) (n := n) (v := v) (kn := kn) (pr := pr) (ar := ar) (X := X16) (s0 := 640) (cc := 5) (by omega) (by omega)) (cwV 1 hts (gx_goodV wd_492 wd_494 ws_18 wd_7 wd_495) rfl rfl rfl (by decide +kernel) ⟨Nat.le_of_ble_eq_true rfl, Nat.le_of_ble_eq_true rfl⟩) (gc_preVW (gc_recv hP hG (ci := 5) rfl (q0 := 0) rfl) hP hG hD) rfl rfl hl.1 rfl (lv_room (Nat.le_of_ble_eq_true rfl)) d_MM_collect_23 ⟨Nat.le_refl _, Nat.le_refl _⟩) hD hS (fun X23 H locs hx23 hP hD hS => ?_)
  have hP : va_P g.1 gx_cl (mW g md J n v kn pr ar X23) H := hP
  have hD : va_D (gx_in (mW g md J n v kn pr ar X)) (mW g md J n v kn pr ar X23) := hD
  refine lv_aload_n hx hb d_MM_collect_26 rfl (lv_at hl 0 rfl) ?_
  refine lv_sipush (v := nI 768) hx hb d_MM_collect_27 (by decide) ?_
  refine gc_cwv (va_runV (own := R_MM) (As := [.int (nI 768)]) (rest := []) ⟨hx, hb, hml, hown, hts⟩ (c_MM_clear (l := l) (g := g) (md := md) (J := J) (n := n) (v := v) (kn := kn) (pr := pr) (ar := ar) (X := X23) (s0 := 768) (cc := 6) (by omega) (by omega)) (cwV 1 hts (gx_goodV wd_492 wd_494 ws_18 wd_7 wd_495) rfl rfl rfl (by decide +kernel) ⟨Nat.le_of_ble_eq_true rfl, Nat.le_of_ble_eq_true rfl⟩) (gc_preVW (gc_recv hP hG (ci := 5) rfl (q0 := 0) rfl) hP hG hD) rfl rfl hl.1 rfl (lv_room (Nat.le_of_ble_eq_true rfl)) d_MM_collect_30 ⟨Nat.le_refl _, Nat.le_refl _⟩) hD hS (fun X30 H locs hx30 hP hD hS => ?_)
  have hP : va_P g.1 gx_cl (mW g md J n v kn pr ar X30) H := hP
  have hD : va_D (gx_in (mW g md J n v kn pr ar X)) (mW g md J n v kn pr ar X30) := hD
  refine lv_iconst (v := nI 0) hx hb d_MM_collect_33 (by decide) ?_
  refine lv_istore_n (lv' := [(2, .int (nI 0)), (0, .ref (md 0)), (1, .int (nI nn))]) hx hb d_MM_collect_34 rfl hl (by decide) rfl (fun ls hl => ?_)
  have lp35 : ∀ (d : Nat) (q : Nat) (X1 : Nat → Int64) (ls : Array Slot) (H : Heap) (locs : List Loc), d = 6 - q → (q ≤ 6) → (mt_co X X1 k a b nn (fun z => (∃ j, j < q ∧ z = mt_pf k a b (mt_rc k a j) nn)) False) → lv_has ls 3 [(2, .int (nI q)), (0, .ref (md 0)), (1, .int (nI nn))] → va_P g.1 gx_cl (mW g md J n v kn pr ar X1) H → va_D (gx_in (mW g md J n v kn pr ar X)) (mW g md J n v kn pr ar X1) → va_S (gx_in (mW g md J n v kn pr ar X)) s.heap H locs → W p l e (gx_rm 3 67) s m ([.ref (md 0), .int (nI nn)] : List Value).toArray below meth c H locs 0 0 (MQ below (va_Qv (fun (u : Nat → Int64) => mt_co X u k a b nn (mt_rows X k a b nn pr ar) True) (fun u9 t9 => va_P g.1 gx_cl ((fun (u : Nat → Int64) => mW g md J n v kn pr ar u) u9) t9.heap ∧ va_D (gx_in (mW g md J n v kn pr ar X)) ((fun (u : Nat → Int64) => mW g md J n v kn pr ar u) u9)) (gx_in (mW g md J n v kn pr ar X))) ([.ref (md 0), .int (nI nn)] : List Value).toArray s 0 0 (gx_in (mW g md J n v kn pr ar X))) (F0 m 35 ls []) := by
    intro d
    induction d using Nat.strongRecOn with
    | ind d ih35 =>
    intro q X1 ls H locs hd hq hco hl hP hD hS
    refine lv_iload_n hx hb d_MM_collect_35 rfl (lv_at hl 0 rfl) ?_
    refine lv_bipush (v := nI 6) hx hb d_MM_collect_36 (by decide) ?_
    refine lv_icmp_ge (tgt := 59) hx hb d_MM_collect_38 (by decide) (mt_le (by omega) (by omega) fun hc38 => ?_) (mt_nle (by omega) (by omega) fun hc38 => ?_)
    · ---- 38T
      refine lv_iconst (v := nI 0) hx hb d_MM_collect_59 (by decide) ?_
      refine lv_istore_n (lv' := [(2, .int (nI 0)), (0, .ref (md 0)), (1, .int (nI nn))]) hx hb d_MM_collect_60 rfl hl (by decide) rfl (fun ls hl => ?_)
      have lp61 : ∀ (d : Nat) (q : Nat) (X1 : Nat → Int64) (ls : Array Slot) (H : Heap) (locs : List Loc), d = 2 ^ pr - q → (q ≤ 2 ^ pr) → (mt_co X X1 k a b nn (fun z => (∃ j, j < 6 ∧ z = mt_pf k a b (mt_rc k a j) nn) ∨ (∃ x, x < q ∧ mt_ms X 1 x = true ∧ z = mt_pf k a b (fun t => k t == 1 && Nat.testBit x (mt_pl k t)) nn)) False) → lv_has ls 3 [(2, .int (nI q)), (0, .ref (md 0)), (1, .int (nI nn))] → va_P g.1 gx_cl (mW g md J n v kn pr ar X1) H → va_D (gx_in (mW g md J n v kn pr ar X)) (mW g md J n v kn pr ar X1) → va_S (gx_in (mW g md J n v kn pr ar X)) s.heap H locs → W p l e (gx_rm 3 67) s m ([.ref (md 0), .int (nI nn)] : List Value).toArray below meth c H locs 0 0 (MQ below (va_Qv (fun (u : Nat → Int64) => mt_co X u k a b nn (mt_rows X k a b nn pr ar) True) (fun u9 t9 => va_P g.1 gx_cl ((fun (u : Nat → Int64) => mW g md J n v kn pr ar u) u9) t9.heap ∧ va_D (gx_in (mW g md J n v kn pr ar X)) ((fun (u : Nat → Int64) => mW g md J n v kn pr ar u) u9)) (gx_in (mW g md J n v kn pr ar X))) ([.ref (md 0), .int (nI nn)] : List Value).toArray s 0 0 (gx_in (mW g md J n v kn pr ar X))) (F0 m 61 ls []) := by
        intro d
        induction d using Nat.strongRecOn with
        | ind d ih61 =>
        intro q X1 ls H locs hd hq hco hl hP hD hS
        refine lv_iload_n hx hb d_MM_collect_61 rfl (lv_at hl 0 rfl) ?_
        refine lv_iconst (v := nI 1) hx hb d_MM_collect_62 (by decide) ?_
        refine lv_aload_n hx hb d_MM_collect_63 rfl (lv_at hl 1 rfl) ?_
        refine va_get (D := g.1) (own := R_MM) (ref := R_MM) (ci := 5) (v := .int (nI pr)) (C := R_MM) (T := F_MM) (N := 16) hx hb hts in_MM hown hG.1 hP 0 rfl rfl 13 (by decide) (hts _ wd_396) (fun _ h9 => h9) rfl d_MM_collect_64 ?_
        refine lv_ishl hx hb d_MM_collect_67 ?_
        refine mt_ri (y := nI (2 ^ pr)) (mt_shl (by omega)) ?_
        refine lv_icmp_ge (tgt := 100) hx hb d_MM_collect_68 (by decide) (mt_le (by omega) (by omega) fun hc68 => ?_) (mt_nle (by omega) (by omega) fun hc68 => ?_)
        · ---- 68T
          refine lv_iconst (v := nI 0) hx hb d_MM_collect_100 (by decide) ?_
          refine lv_istore_n (lv' := [(2, .int (nI 0)), (0, .ref (md 0)), (1, .int (nI nn))]) hx hb d_MM_collect_101 rfl hl (by decide) rfl (fun ls hl => ?_)
          have lp102 : ∀ (d : Nat) (q : Nat) (X1 : Nat → Int64) (ls : Array Slot) (H : Heap) (locs : List Loc), d = 2 ^ ar - q → (q ≤ 2 ^ ar) → (mt_co X X1 k a b nn (fun z => ((∃ j, j < 6 ∧ z = mt_pf k a b (mt_rc k a j) nn) ∨ (∃ x, x < 2 ^ pr ∧ mt_ms X 1 x = true ∧ z = mt_pf k a b (fun t => k t == 1 && Nat.testBit x (mt_pl k t)) nn)) ∨ (∃ x, x < q ∧ mt_ms X 2 x = true ∧ z = mt_pf k a b (fun t => k t == 2 && Nat.testBit (2 ^ ar - 1 - x) (mt_pl k t)) nn)) False) → lv_has ls 3 [(2, .int (nI q)), (0, .ref (md 0)), (1, .int (nI nn))] → va_P g.1 gx_cl (mW g md J n v kn pr ar X1) H → va_D (gx_in (mW g md J n v kn pr ar X)) (mW g md J n v kn pr ar X1) → va_S (gx_in (mW g md J n v kn pr ar X)) s.heap H locs → W p l e (gx_rm 3 67) s m ([.ref (md 0), .int (nI nn)] : List Value).toArray below meth c H locs 0 0 (MQ below (va_Qv (fun (u : Nat → Int64) => mt_co X u k a b nn (mt_rows X k a b nn pr ar) True) (fun u9 t9 => va_P g.1 gx_cl ((fun (u : Nat → Int64) => mW g md J n v kn pr ar u) u9) t9.heap ∧ va_D (gx_in (mW g md J n v kn pr ar X)) ((fun (u : Nat → Int64) => mW g md J n v kn pr ar u) u9)) (gx_in (mW g md J n v kn pr ar X))) ([.ref (md 0), .int (nI nn)] : List Value).toArray s 0 0 (gx_in (mW g md J n v kn pr ar X))) (F0 m 102 ls []) := by
            intro d
            induction d using Nat.strongRecOn with
            | ind d ih102 =>
            intro q X1 ls H locs hd hq hco hl hP hD hS
            refine lv_iload_n hx hb d_MM_collect_102 rfl (lv_at hl 0 rfl) ?_
            refine lv_iconst (v := nI 1) hx hb d_MM_collect_103 (by decide) ?_
            refine lv_aload_n hx hb d_MM_collect_104 rfl (lv_at hl 1 rfl) ?_
            refine va_get (D := g.1) (own := R_MM) (ref := R_MM) (ci := 5) (v := .int (nI ar)) (C := R_MM) (T := F_MM) (N := 16) hx hb hts in_MM hown hG.1 hP 0 rfl rfl 14 (by decide) (hts _ wd_397) (fun _ h9 => h9) rfl d_MM_collect_105 ?_
            refine lv_ishl hx hb d_MM_collect_108 ?_
            refine mt_ri (y := nI (2 ^ ar)) (mt_shl (by omega)) ?_
            refine lv_icmp_ge (tgt := 150) hx hb d_MM_collect_109 (by decide) (mt_le (by omega) (by omega) fun hc109 => ?_) (mt_nle (by omega) (by omega) fun hc109 => ?_)
            · ---- 109T
              refine lv_aload_n hx hb d_MM_collect_150 rfl (lv_at hl 1 rfl) ?_
              refine lv_sipush (v := nI 768) hx hb d_MM_collect_151 (by decide) ?_
              refine lv_iconst (v := nI 0) hx hb d_MM_collect_154 (by decide) ?_
              refine gc_cwi (va_runV (own := R_MM) (As := [.int (nI 768), .int (nI 0)]) (rest := []) ⟨hx, hb, hml, hown, hts⟩ (c_MM_put (l := l) (g := g) (md := md) (J := J) (n := n) (v := v) (kn := kn) (pr := pr) (ar := ar) (X := X1) (s0 := 768) (cc := 6) (i := 0) (by omega) (by omega) (by omega)) (cwV 2 hts (gx_goodV wd_496 wd_498 ws_19 wd_7 wd_499) rfl rfl rfl (by decide +kernel) ⟨Nat.le_of_ble_eq_true rfl, Nat.le_of_ble_eq_true rfl⟩) (gc_preVW (gc_recv hP hG (ci := 5) rfl (q0 := 0) rfl) hP hG hD) rfl rfl hl.1 rfl (lv_room (Nat.le_of_ble_eq_true rfl)) d_MM_collect_155 ⟨Nat.le_refl _, Nat.le_refl _⟩) hD hS (fun r155 X155 H locs hr155 hP hD hS => ?_)
              obtain ⟨hr155, hx155⟩ := hr155
              subst hr155
              have hP : va_P g.1 gx_cl (mW g md J n v kn pr ar X155) H := hP
              have hD : va_D (gx_in (mW g md J n v kn pr ar X)) (mW g md J n v kn pr ar X155) := hD
              refine lv_pop hx hb d_MM_collect_158 rfl ?_
              exact gc_retv (u := (X155)) (Wf := fun (u : Nat → Int64) => mW g md J n v kn pr ar u) (post := fun (u : Nat → Int64) => mt_co X u k a b nn (mt_rows X k a b nn pr ar) True) hx hb hr hlk (mt_co_end (mt_co_c hco (fun z => by rw [show q = 2 ^ ar by omega]; exact Iff.rfl)) hx155) hP hD hS d_MM_collect_159
            · ---- 109F
              refine lv_aload_n hx hb d_MM_collect_112 rfl (lv_at hl 1 rfl) ?_
              refine lv_sipush (v := nI 256) hx hb d_MM_collect_113 (by decide) ?_
              refine lv_iload_n hx hb d_MM_collect_116 rfl (lv_at hl 0 rfl) ?_
              refine vp_callSi (va_runV (own := R_MM) (As := [.int (nI 256), .int (nI q)]) (rest := []) ⟨hx, hb, hml, hown, hts⟩ (c_MM_has (l := l) (g := g) (md := md) (J := J) (n := n) (v := v) (kn := kn) (pr := pr) (ar := ar) (X := X1) (s0 := 256) (cc := 2) (i := q) (by omega) (by omega) (by omega)) (cwV 2 hts (gx_goodV wd_500 wd_502 ws_20 wd_7 wd_503) rfl rfl rfl (by decide +kernel) ⟨Nat.le_of_ble_eq_true rfl, Nat.le_of_ble_eq_true rfl⟩) (gc_preV (gc_recv hP hG (ci := 5) rfl (q0 := 0) rfl) hP hG) rfl rfl hl.1 rfl (lv_room (Nat.le_of_ble_eq_true rfl)) d_MM_collect_117 ⟨Nat.le_refl _, Nat.le_refl _⟩).run (fun r hr117 => ?_)
              subst hr117
              refine lv_if_eq (tgt := 144) hx hb d_MM_collect_120 (by decide) (mt_z fun hc120 => ?_) (mt_nz fun hc120 => ?_)
              · ---- 109F 120T
                refine lv_iinc (k := 0) (v := nI (q + 1)) (lv' := [(2, .int (nI (q + 1))), (0, .ref (md 0)), (1, .int (nI nn))]) hx hb d_MM_collect_144 hl rfl (by rw [lit1]; exact nI_1 _) (by decide) rfl (fun ls hl => ?_)
                refine lv_goto (tgt := 102) hx hb d_MM_collect_147 (by decide) ?_
                exact ih102 _ (by omega) (q + 1) X1 ls _ _ rfl (by omega) (mt_co_c hco (fun z => mt_lt_f (M := fun x => mt_ms X 2 x = true) (P := fun x z => z = mt_pf k a b (fun t => k t == 2 && Nat.testBit (2 ^ ar - 1 - x) (mt_pl k t)) nn) (by rw [← hco.1 2 q (by omega) (by decide) (Or.inl (by decide)), hc120]; decide))) (lv_sub hl [0, 1, 2] rfl) hP hD hS
              · ---- 109F 120F
                refine lv_aload_n hx hb d_MM_collect_123 rfl (lv_at hl 1 rfl) ?_
                refine lv_iload_n hx hb d_MM_collect_124 rfl (lv_at hl 2 rfl) ?_
                refine lv_aload_n hx hb d_MM_collect_125 rfl (lv_at hl 1 rfl) ?_
                refine lv_iload_n hx hb d_MM_collect_126 rfl (lv_at hl 2 rfl) ?_
                refine lv_iconst (v := nI 2) hx hb d_MM_collect_127 (by decide) ?_
                refine lv_iconst (v := nI 1) hx hb d_MM_collect_128 (by decide) ?_
                refine lv_aload_n hx hb d_MM_collect_129 rfl (lv_at hl 1 rfl) ?_
                refine va_get (D := g.1) (own := R_MM) (ref := R_MM) (ci := 5) (v := .int (nI ar)) (C := R_MM) (T := F_MM) (N := 16) hx hb hts in_MM hown hG.1 hP 0 rfl rfl 14 (by decide) (hts _ wd_397) (fun _ h9 => h9) rfl d_MM_collect_130 ?_
                refine lv_ishl hx hb d_MM_collect_133 ?_
                refine mt_ri (y := nI (2 ^ ar)) (mt_shl (by omega)) ?_
                refine lv_iconst (v := nI 1) hx hb d_MM_collect_134 (by decide) ?_
                refine lv_isub hx hb d_MM_collect_135 ?_
                refine mt_ri (y := nI (2 ^ ar - 1)) (pk_sub (by omega)) ?_
                refine lv_iload_n hx hb d_MM_collect_136 rfl (lv_at hl 0 rfl) ?_
                refine lv_isub hx hb d_MM_collect_137 ?_
                refine mt_ri (y := nI (2 ^ ar - 1 - q)) (pk_sub (by omega)) ?_
                refine vp_callSi (va_runV (own := R_MM) (As := [.int (nI nn), .int (nI 2), .int (nI (2 ^ ar - 1 - q))]) (rest := [.int (nI nn), .ref (md 0)]) ⟨hx, hb, hml, hown, hts⟩ (c_MM_rowOf2 (l := l) (g := g) (md := md) (J := J) (n := n) (v := v) (kn := kn) (pr := pr) (ar := ar) (X := X1) (k := k) (a := a) (b := b) (nn := nn) (wh := 2 ^ ar - 1 - q) hT hn13 hw hN (by omega)) (cwV 3 hts (gx_goodV wd_508 wd_510 ws_22 wd_7 wd_511) rfl rfl rfl (by decide +kernel) ⟨Nat.le_of_ble_eq_true rfl, Nat.le_of_ble_eq_true rfl⟩) (gc_preV (gc_recv hP hG (ci := 5) rfl (q0 := 0) rfl) hP hG) rfl rfl hl.1 rfl (lv_room (Nat.le_of_ble_eq_true rfl)) d_MM_collect_138 ⟨Nat.le_refl _, Nat.le_refl _⟩).run (fun r hr138 => ?_)
                subst hr138
                refine gc_cwv (va_runV (own := R_MM) (As := [.int (nI nn), .int (nI (mt_pf k a b (fun t => k t == 2 && Nat.testBit (2 ^ ar - 1 - q) (mt_pl k t)) nn))]) (rest := []) ⟨hx, hb, hml, hown, hts⟩ (c_MM_enter (l := l) (g := g) (md := md) (J := J) (n := n) (v := v) (kn := kn) (pr := pr) (ar := ar) (X := X1) (k := k) (a := a) (b := b) (nn := nn) (rw := mt_pf k a b (fun t => k t == 2 && Nat.testBit (2 ^ ar - 1 - q) (mt_pl k t)) nn) (X0 := X) hT hn13 hw hN hco (by exact mt_lt13 (mt_pf_lt _ _ _ _ _) hn13)) (cwV 2 hts (gx_goodV wd_512 wd_514 ws_23 wd_7 wd_515) rfl rfl rfl (by decide +kernel) ⟨Nat.le_of_ble_eq_true rfl, Nat.le_of_ble_eq_true rfl⟩) (gc_preVW (gc_recv hP hG (ci := 5) rfl (q0 := 0) rfl) hP hG hD) rfl rfl hl.1 rfl (lv_room (Nat.le_of_ble_eq_true rfl)) d_MM_collect_141 ⟨Nat.le_refl _, Nat.le_refl _⟩) hD hS (fun X141 H locs hco141 hP hD hS => ?_)
                have hP : va_P g.1 gx_cl (mW g md J n v kn pr ar X141) H := hP
                have hD : va_D (gx_in (mW g md J n v kn pr ar X)) (mW g md J n v kn pr ar X141) := hD
                refine lv_iinc (k := 0) (v := nI (q + 1)) (lv' := [(2, .int (nI (q + 1))), (0, .ref (md 0)), (1, .int (nI nn))]) hx hb d_MM_collect_144 hl rfl (by rw [lit1]; exact nI_1 _) (by decide) rfl (fun ls hl => ?_)
                refine lv_goto (tgt := 102) hx hb d_MM_collect_147 (by decide) ?_
                exact ih102 _ (by omega) (q + 1) X141 ls _ _ rfl (by omega) (mt_co_c hco141 (fun z => mt_lt_t (M := fun x => mt_ms X 2 x = true) (P := fun x z => z = mt_pf k a b (fun t => k t == 2 && Nat.testBit (2 ^ ar - 1 - x) (mt_pl k t)) nn) (by rw [← hco.1 2 q (by omega) (by decide) (Or.inl (by decide))]; exact hc120))) (lv_sub hl [0, 1, 2] rfl) hP hD hS
          exact lp102 _ 0 X1 ls _ _ rfl (Nat.zero_le _) (mt_co_c hco (fun z => by rw [show q = 2 ^ pr by omega]; exact mt_or_0)) (lv_sub hl [0, 1, 2] rfl) hP hD hS
        · ---- 68F
          refine lv_aload_n hx hb d_MM_collect_71 rfl (lv_at hl 1 rfl) ?_
          refine lv_sipush (v := nI 128) hx hb d_MM_collect_72 (by decide) ?_
          refine lv_iload_n hx hb d_MM_collect_75 rfl (lv_at hl 0 rfl) ?_
          refine vp_callSi (va_runV (own := R_MM) (As := [.int (nI 128), .int (nI q)]) (rest := []) ⟨hx, hb, hml, hown, hts⟩ (c_MM_has (l := l) (g := g) (md := md) (J := J) (n := n) (v := v) (kn := kn) (pr := pr) (ar := ar) (X := X1) (s0 := 128) (cc := 1) (i := q) (by omega) (by omega) (by omega)) (cwV 2 hts (gx_goodV wd_500 wd_502 ws_20 wd_7 wd_503) rfl rfl rfl (by decide +kernel) ⟨Nat.le_of_ble_eq_true rfl, Nat.le_of_ble_eq_true rfl⟩) (gc_preV (gc_recv hP hG (ci := 5) rfl (q0 := 0) rfl) hP hG) rfl rfl hl.1 rfl (lv_room (Nat.le_of_ble_eq_true rfl)) d_MM_collect_76 ⟨Nat.le_refl _, Nat.le_refl _⟩).run (fun r hr76 => ?_)
          subst hr76
          refine lv_if_eq (tgt := 94) hx hb d_MM_collect_79 (by decide) (mt_z fun hc79 => ?_) (mt_nz fun hc79 => ?_)
          · ---- 68F 79T
            refine lv_iinc (k := 0) (v := nI (q + 1)) (lv' := [(2, .int (nI (q + 1))), (0, .ref (md 0)), (1, .int (nI nn))]) hx hb d_MM_collect_94 hl rfl (by rw [lit1]; exact nI_1 _) (by decide) rfl (fun ls hl => ?_)
            refine lv_goto (tgt := 61) hx hb d_MM_collect_97 (by decide) ?_
            exact ih61 _ (by omega) (q + 1) X1 ls _ _ rfl (by omega) (mt_co_c hco (fun z => mt_lt_f (M := fun x => mt_ms X 1 x = true) (P := fun x z => z = mt_pf k a b (fun t => k t == 1 && Nat.testBit x (mt_pl k t)) nn) (by rw [← hco.1 1 q (by omega) (by decide) (Or.inl (by decide)), hc79]; decide))) (lv_sub hl [0, 1, 2] rfl) hP hD hS
          · ---- 68F 79F
            refine lv_aload_n hx hb d_MM_collect_82 rfl (lv_at hl 1 rfl) ?_
            refine lv_iload_n hx hb d_MM_collect_83 rfl (lv_at hl 2 rfl) ?_
            refine lv_aload_n hx hb d_MM_collect_84 rfl (lv_at hl 1 rfl) ?_
            refine lv_iload_n hx hb d_MM_collect_85 rfl (lv_at hl 2 rfl) ?_
            refine lv_iconst (v := nI 1) hx hb d_MM_collect_86 (by decide) ?_
            refine lv_iload_n hx hb d_MM_collect_87 rfl (lv_at hl 0 rfl) ?_
            refine vp_callSi (va_runV (own := R_MM) (As := [.int (nI nn), .int (nI 1), .int (nI q)]) (rest := [.int (nI nn), .ref (md 0)]) ⟨hx, hb, hml, hown, hts⟩ (c_MM_rowOf1 (l := l) (g := g) (md := md) (J := J) (n := n) (v := v) (kn := kn) (pr := pr) (ar := ar) (X := X1) (k := k) (a := a) (b := b) (nn := nn) (wh := q) hT hn13 hw hN (by omega)) (cwV 3 hts (gx_goodV wd_508 wd_510 ws_22 wd_7 wd_511) rfl rfl rfl (by decide +kernel) ⟨Nat.le_of_ble_eq_true rfl, Nat.le_of_ble_eq_true rfl⟩) (gc_preV (gc_recv hP hG (ci := 5) rfl (q0 := 0) rfl) hP hG) rfl rfl hl.1 rfl (lv_room (Nat.le_of_ble_eq_true rfl)) d_MM_collect_88 ⟨Nat.le_refl _, Nat.le_refl _⟩).run (fun r hr88 => ?_)
            subst hr88
            refine gc_cwv (va_runV (own := R_MM) (As := [.int (nI nn), .int (nI (mt_pf k a b (fun t => k t == 1 && Nat.testBit q (mt_pl k t)) nn))]) (rest := []) ⟨hx, hb, hml, hown, hts⟩ (c_MM_enter (l := l) (g := g) (md := md) (J := J) (n := n) (v := v) (kn := kn) (pr := pr) (ar := ar) (X := X1) (k := k) (a := a) (b := b) (nn := nn) (rw := mt_pf k a b (fun t => k t == 1 && Nat.testBit q (mt_pl k t)) nn) (X0 := X) hT hn13 hw hN hco (by exact mt_lt13 (mt_pf_lt _ _ _ _ _) hn13)) (cwV 2 hts (gx_goodV wd_512 wd_514 ws_23 wd_7 wd_515) rfl rfl rfl (by decide +kernel) ⟨Nat.le_of_ble_eq_true rfl, Nat.le_of_ble_eq_true rfl⟩) (gc_preVW (gc_recv hP hG (ci := 5) rfl (q0 := 0) rfl) hP hG hD) rfl rfl hl.1 rfl (lv_room (Nat.le_of_ble_eq_true rfl)) d_MM_collect_91 ⟨Nat.le_refl _, Nat.le_refl _⟩) hD hS (fun X91 H locs hco91 hP hD hS => ?_)
            have hP : va_P g.1 gx_cl (mW g md J n v kn pr ar X91) H := hP
            have hD : va_D (gx_in (mW g md J n v kn pr ar X)) (mW g md J n v kn pr ar X91) := hD
            refine lv_iinc (k := 0) (v := nI (q + 1)) (lv' := [(2, .int (nI (q + 1))), (0, .ref (md 0)), (1, .int (nI nn))]) hx hb d_MM_collect_94 hl rfl (by rw [lit1]; exact nI_1 _) (by decide) rfl (fun ls hl => ?_)
            refine lv_goto (tgt := 61) hx hb d_MM_collect_97 (by decide) ?_
            exact ih61 _ (by omega) (q + 1) X91 ls _ _ rfl (by omega) (mt_co_c hco91 (fun z => mt_lt_t (M := fun x => mt_ms X 1 x = true) (P := fun x z => z = mt_pf k a b (fun t => k t == 1 && Nat.testBit x (mt_pl k t)) nn) (by rw [← hco.1 1 q (by omega) (by decide) (Or.inl (by decide))]; exact hc79))) (lv_sub hl [0, 1, 2] rfl) hP hD hS
      exact lp61 _ 0 X1 ls _ _ rfl (Nat.zero_le _) (mt_co_c hco (fun z => by rw [show q = 6 by omega]; exact mt_or_0)) (lv_sub hl [0, 1, 2] rfl) hP hD hS
    · ---- 38F
      refine lv_aload_n hx hb d_MM_collect_41 rfl (lv_at hl 1 rfl) ?_
      refine lv_iload_n hx hb d_MM_collect_42 rfl (lv_at hl 2 rfl) ?_
      refine lv_aload_n hx hb d_MM_collect_43 rfl (lv_at hl 1 rfl) ?_
      refine lv_iload_n hx hb d_MM_collect_44 rfl (lv_at hl 2 rfl) ?_
      refine lv_iconst (v := nI 0) hx hb d_MM_collect_45 (by decide) ?_
      refine lv_iload_n hx hb d_MM_collect_46 rfl (lv_at hl 0 rfl) ?_
      refine vp_callSi (va_runV (own := R_MM) (As := [.int (nI nn), .int (nI 0), .int (nI q)]) (rest := [.int (nI nn), .ref (md 0)]) ⟨hx, hb, hml, hown, hts⟩ (c_MM_rowOf0 (l := l) (g := g) (md := md) (J := J) (n := n) (v := v) (kn := kn) (pr := pr) (ar := ar) (X := X1) (k := k) (a := a) (b := b) (nn := nn) (wh := q) hT hn13 hw (by omega)) (cwV 3 hts (gx_goodV wd_508 wd_510 ws_22 wd_7 wd_511) rfl rfl rfl (by decide +kernel) ⟨Nat.le_of_ble_eq_true rfl, Nat.le_of_ble_eq_true rfl⟩) (gc_preV (gc_recv hP hG (ci := 5) rfl (q0 := 0) rfl) hP hG) rfl rfl hl.1 rfl (lv_room (Nat.le_of_ble_eq_true rfl)) d_MM_collect_47 ⟨Nat.le_refl _, Nat.le_refl _⟩).run (fun r hr47 => ?_)
      subst hr47
      refine gc_cwv (va_runV (own := R_MM) (As := [.int (nI nn), .int (nI (mt_pf k a b (mt_rc k a q) nn))]) (rest := []) ⟨hx, hb, hml, hown, hts⟩ (c_MM_enter (l := l) (g := g) (md := md) (J := J) (n := n) (v := v) (kn := kn) (pr := pr) (ar := ar) (X := X1) (k := k) (a := a) (b := b) (nn := nn) (rw := mt_pf k a b (mt_rc k a q) nn) (X0 := X) hT hn13 hw hN hco (by exact mt_lt13 (mt_pf_lt _ _ _ _ _) hn13)) (cwV 2 hts (gx_goodV wd_512 wd_514 ws_23 wd_7 wd_515) rfl rfl rfl (by decide +kernel) ⟨Nat.le_of_ble_eq_true rfl, Nat.le_of_ble_eq_true rfl⟩) (gc_preVW (gc_recv hP hG (ci := 5) rfl (q0 := 0) rfl) hP hG hD) rfl rfl hl.1 rfl (lv_room (Nat.le_of_ble_eq_true rfl)) d_MM_collect_50 ⟨Nat.le_refl _, Nat.le_refl _⟩) hD hS (fun X50 H locs hco50 hP hD hS => ?_)
      have hP : va_P g.1 gx_cl (mW g md J n v kn pr ar X50) H := hP
      have hD : va_D (gx_in (mW g md J n v kn pr ar X)) (mW g md J n v kn pr ar X50) := hD
      refine lv_iinc (k := 0) (v := nI (q + 1)) (lv' := [(2, .int (nI (q + 1))), (0, .ref (md 0)), (1, .int (nI nn))]) hx hb d_MM_collect_53 hl rfl (by rw [lit1]; exact nI_1 _) (by decide) rfl (fun ls hl => ?_)
      refine lv_goto (tgt := 35) hx hb d_MM_collect_56 (by decide) ?_
      exact ih35 _ (by omega) (q + 1) X50 ls _ _ rfl (by omega) (mt_co_c hco50 (fun z => mt_lt_s (P := fun x z => z = mt_pf k a b (mt_rc k a x) nn))) (lv_sub hl [0, 1, 2] rfl) hP hD hS
  exact lp35 _ 0 X30 ls _ _ rfl (by decide) (mt_co_0 hx2 hx9 hx16 hx23 hx30) (lv_sub hl [0, 1, 2] rfl) hP hD hS

set_option maxHeartbeats 4000000 in
set_option maxRecDepth 100000 in
theorem c_MM_makePairs {g : gG} {md : Nat → Nat} {J : Nat → Nat → Int32} {n v kn pr ar : Nat} {X : Nat → Int64}  {l : Launch} (hpr13 : pr ≤ 13) :
    gc_RW (S := Nat → Int64) l y_MM_makePairs (gx_ws y_MM_makePairs b_MM_makePairs 4 (some .boolean)) 2 45 g [.ref (md 0)] (mW g md J n v kn pr ar X) (fun (u : Nat → Int64) => mW g md J n v kn pr ar u) (fun r (u : Nat → Int64) => ∃ q, r = mt_b q ∧ mt_mk 1 X u (fun x => ∃ y z, y < (2 ^ pr) ∧ z < 2 ^ pr ∧ mt_ms X 3 y = true ∧ mt_ms X 4 z = true ∧ x = y &&& z) q) := by
  refine gx_body (by decide) (Nat.le_of_ble_eq_true rfl) ?_
  intro p e s m below meth c ls hAt hB hl
  obtain ⟨hx, hb, hml, hown, hts, hr, hlk, hnm⟩ := hAt
  have hown : s.vm.findClass R_MM = some m.cls := hown
  obtain ⟨⟨hP, hG⟩, hD0⟩ := hB
  have hD := gx_D.self hD0
  have hS : va_S (gx_in (mW g md J n v kn pr ar X)) s.heap s.heap [] := va_S.rf
  have hl : lv_has ls 4 [(0, .ref (md 0))] := hl
  have hpr2 := mt_p13 hpr13
  refine lv_iconst (v := nI 0) hx hb d_MM_makePairs_0 (by decide) ?_
  refine lv_istore_n (lv' := [(1, .int (nI 0)), (0, .ref (md 0))]) hx hb d_MM_makePairs_1 rfl hl (by decide) rfl (fun ls hl => ?_)
  refine lv_iconst (v := nI 0) hx hb d_MM_makePairs_2 (by decide) ?_
  refine lv_istore_n (lv' := [(2, .int (nI 0)), (1, .int (nI 0)), (0, .ref (md 0))]) hx hb d_MM_makePairs_3 rfl hl (by decide) rfl (fun ls hl => ?_)
  have lp4 : ∀ (d : Nat) (mm : Bool) (q2 : Nat) (X1 : Nat → Int64) (ls : Array Slot) (H : Heap) (locs : List Loc), d = 2 ^ pr - q2 → (q2 ≤ 2 ^ pr) → (mt_mk 1 X X1 (fun x => ∃ y z, y < q2 ∧ z < 2 ^ pr ∧ mt_ms X 3 y = true ∧ mt_ms X 4 z = true ∧ x = y &&& z) mm) → lv_has ls 4 [(1, .int (mt_b mm)), (2, .int (nI q2)), (0, .ref (md 0))] → va_P g.1 gx_cl (mW g md J n v kn pr ar X1) H → va_D (gx_in (mW g md J n v kn pr ar X)) (mW g md J n v kn pr ar X1) → va_S (gx_in (mW g md J n v kn pr ar X)) s.heap H locs → W p l e (gx_rm 2 45) s m ([.ref (md 0)] : List Value).toArray below meth c H locs 0 0 (MQ below (va_Qi (fun r (u : Nat → Int64) => ∃ q, r = mt_b q ∧ mt_mk 1 X u (fun x => ∃ y z, y < (2 ^ pr) ∧ z < 2 ^ pr ∧ mt_ms X 3 y = true ∧ mt_ms X 4 z = true ∧ x = y &&& z) q) (fun u9 t9 => va_P g.1 gx_cl ((fun (u : Nat → Int64) => mW g md J n v kn pr ar u) u9) t9.heap ∧ va_D (gx_in (mW g md J n v kn pr ar X)) ((fun (u : Nat → Int64) => mW g md J n v kn pr ar u) u9)) (gx_in (mW g md J n v kn pr ar X))) ([.ref (md 0)] : List Value).toArray s 0 0 (gx_in (mW g md J n v kn pr ar X))) (F0 m 4 ls []) := by
    intro d
    induction d using Nat.strongRecOn with
    | ind d ih4 =>
    intro mm q2 X1 ls H locs hd hq2 hm hl hP hD hS
    refine lv_iload_n hx hb d_MM_makePairs_4 rfl (lv_at hl 1 rfl) ?_
    refine lv_iconst (v := nI 1) hx hb d_MM_makePairs_5 (by decide) ?_
    refine lv_aload_n hx hb d_MM_makePairs_6 rfl (lv_at hl 2 rfl) ?_
    refine va_get (D := g.1) (own := R_MM) (ref := R_MM) (ci := 5) (v := .int (nI pr)) (C := R_MM) (T := F_MM) (N := 16) hx hb hts in_MM hown hG.1 hP 0 rfl rfl 13 (by decide) (hts _ wd_396) (fun _ h9 => h9) rfl d_MM_makePairs_7 ?_
    refine lv_ishl hx hb d_MM_makePairs_10 ?_
    refine mt_ri (y := nI (2 ^ pr)) (mt_shl (by omega)) ?_
    refine lv_icmp_ge (tgt := 83) hx hb d_MM_makePairs_11 (by decide) (mt_le (by omega) (by omega) fun hc11 => ?_) (mt_nle (by omega) (by omega) fun hc11 => ?_)
    · ---- 11T
      refine lv_iload_n hx hb d_MM_makePairs_83 rfl (lv_at hl 0 rfl) ?_
      exact gc_retwz (u := (X1)) (v := mm) (Wf := fun (u : Nat → Int64) => mW g md J n v kn pr ar u) (post := fun r (u : Nat → Int64) => ∃ q, r = mt_b q ∧ mt_mk 1 X u (fun x => ∃ y z, y < (2 ^ pr) ∧ z < 2 ^ pr ∧ mt_ms X 3 y = true ∧ mt_ms X 4 z = true ∧ x = y &&& z) q) hx hb hr hlk (⟨mm, rfl, by rw [show q2 = 2 ^ pr by omega] at hm; exact hm⟩) hP hD hS d_MM_makePairs_84
    · ---- 11F
      refine lv_iconst (v := nI 0) hx hb d_MM_makePairs_14 (by decide) ?_
      refine lv_istore_n (lv' := [(3, .int (nI 0)), (1, .int (mt_b mm)), (2, .int (nI q2)), (0, .ref (md 0))]) hx hb d_MM_makePairs_15 rfl hl (by decide) rfl (fun ls hl => ?_)
      have lp16 : ∀ (d : Nat) (m3 : Bool) (q3 : Nat) (X3 : Nat → Int64) (ls : Array Slot) (H : Heap) (locs : List Loc), d = 2 ^ pr - q3 → (q3 ≤ 2 ^ pr) → (mt_mk 1 X X3 (fun x => (fun x => ∃ y z, y < q2 ∧ z < 2 ^ pr ∧ mt_ms X 3 y = true ∧ mt_ms X 4 z = true ∧ x = y &&& z) x ∨ ∃ z, z < q3 ∧ mt_ms X 3 q2 = true ∧ mt_ms X 4 z = true ∧ x = q2 &&& z) m3) → lv_has ls 4 [(1, .int (mt_b m3)), (3, .int (nI q3)), (2, .int (nI q2)), (0, .ref (md 0))] → va_P g.1 gx_cl (mW g md J n v kn pr ar X3) H → va_D (gx_in (mW g md J n v kn pr ar X)) (mW g md J n v kn pr ar X3) → va_S (gx_in (mW g md J n v kn pr ar X)) s.heap H locs → W p l e (gx_rm 2 45) s m ([.ref (md 0)] : List Value).toArray below meth c H locs 0 0 (MQ below (va_Qi (fun r (u : Nat → Int64) => ∃ q, r = mt_b q ∧ mt_mk 1 X u (fun x => ∃ y z, y < (2 ^ pr) ∧ z < 2 ^ pr ∧ mt_ms X 3 y = true ∧ mt_ms X 4 z = true ∧ x = y &&& z) q) (fun u9 t9 => va_P g.1 gx_cl ((fun (u : Nat → Int64) => mW g md J n v kn pr ar u) u9) t9.heap ∧ va_D (gx_in (mW g md J n v kn pr ar X)) ((fun (u : Nat → Int64) => mW g md J n v kn pr ar u) u9)) (gx_in (mW g md J n v kn pr ar X))) ([.ref (md 0)] : List Value).toArray s 0 0 (gx_in (mW g md J n v kn pr ar X))) (F0 m 16 ls []) := by
        intro d
        induction d using Nat.strongRecOn with
        | ind d ih16 =>
        intro m3 q3 X3 ls H locs hd hq3 hm3 hl hP hD hS
        refine lv_iload_n hx hb d_MM_makePairs_16 rfl (lv_at hl 1 rfl) ?_
        refine lv_iconst (v := nI 1) hx hb d_MM_makePairs_17 (by decide) ?_
        refine lv_aload_n hx hb d_MM_makePairs_18 rfl (lv_at hl 3 rfl) ?_
        refine va_get (D := g.1) (own := R_MM) (ref := R_MM) (ci := 5) (v := .int (nI pr)) (C := R_MM) (T := F_MM) (N := 16) hx hb hts in_MM hown hG.1 hP 0 rfl rfl 13 (by decide) (hts _ wd_396) (fun _ h9 => h9) rfl d_MM_makePairs_19 ?_
        refine lv_ishl hx hb d_MM_makePairs_22 ?_
        refine mt_ri (y := nI (2 ^ pr)) (mt_shl (by omega)) ?_
        refine lv_icmp_ge (tgt := 77) hx hb d_MM_makePairs_23 (by decide) (mt_le (by omega) (by omega) fun hc23 => ?_) (mt_nle (by omega) (by omega) fun hc23 => ?_)
        · ---- 23T
          refine lv_iinc (k := 2) (v := nI (q2 + 1)) (lv' := [(2, .int (nI (q2 + 1))), (1, .int (mt_b m3)), (3, .int (nI q3)), (0, .ref (md 0))]) hx hb d_MM_makePairs_77 hl rfl (by rw [lit1]; exact nI_1 _) (by decide) rfl (fun ls hl => ?_)
          refine lv_goto (tgt := 4) hx hb d_MM_makePairs_80 (by decide) ?_
          exact ih4 _ (by omega) m3 (q2 + 1) X3 ls _ _ rfl (by omega) (mt_mk_c hm3 (fun x => mt_out' (A := fun y => mt_ms X 3 y = true) (B := fun z => mt_ms X 4 z = true) (f := fun y z => y &&& z) (by omega))) (lv_sub hl [1, 0, 3] rfl) hP hD hS
        · ---- 23F
          refine lv_aload_n hx hb d_MM_makePairs_26 rfl (lv_at hl 3 rfl) ?_
          refine lv_sipush (v := nI 384) hx hb d_MM_makePairs_27 (by decide) ?_
          refine lv_iload_n hx hb d_MM_makePairs_30 rfl (lv_at hl 2 rfl) ?_
          refine vp_callSi (va_runV (own := R_MM) (As := [.int (nI 384), .int (nI q2)]) (rest := []) ⟨hx, hb, hml, hown, hts⟩ (c_MM_has (l := l) (g := g) (md := md) (J := J) (n := n) (v := v) (kn := kn) (pr := pr) (ar := ar) (X := X3) (s0 := 384) (cc := 3) (i := q2) (by omega) (by omega) (by omega)) (cwV 2 hts (gx_goodV wd_500 wd_502 ws_20 wd_7 wd_503) rfl rfl rfl (by decide +kernel) ⟨Nat.le_of_ble_eq_true rfl, Nat.le_of_ble_eq_true rfl⟩) (gc_preV (gc_recv hP hG (ci := 5) rfl (q0 := 0) rfl) hP hG) rfl rfl hl.1 rfl (lv_room (Nat.le_of_ble_eq_true rfl)) d_MM_makePairs_31 ⟨Nat.le_refl _, Nat.le_refl _⟩).run (fun r hr31 => ?_)
          subst hr31
          refine lv_if_eq (tgt := 77) hx hb d_MM_makePairs_34 (by decide) (mt_z fun hc34 => ?_) (mt_nz fun hc34 => ?_)
          · ---- 23F 34T
            refine lv_iinc (k := 2) (v := nI (q2 + 1)) (lv' := [(2, .int (nI (q2 + 1))), (1, .int (mt_b m3)), (3, .int (nI q3)), (0, .ref (md 0))]) hx hb d_MM_makePairs_77 hl rfl (by rw [lit1]; exact nI_1 _) (by decide) rfl (fun ls hl => ?_)
            refine lv_goto (tgt := 4) hx hb d_MM_makePairs_80 (by decide) ?_
            exact ih4 _ (by omega) m3 (q2 + 1) X3 ls _ _ rfl (by omega) (mt_mk_c hm3 (fun x => mt_out_n (A := fun y => mt_ms X 3 y = true) (B := fun z => mt_ms X 4 z = true) (f := fun y z => y &&& z) (by rw [← hm3.1 3 q2 (by omega) (by decide), hc34]; decide))) (lv_sub hl [1, 0, 3] rfl) hP hD hS
          · ---- 23F 34F
            refine lv_aload_n hx hb d_MM_makePairs_37 rfl (lv_at hl 3 rfl) ?_
            refine lv_sipush (v := nI 512) hx hb d_MM_makePairs_38 (by decide) ?_
            refine lv_iload_n hx hb d_MM_makePairs_41 rfl (lv_at hl 1 rfl) ?_
            refine vp_callSi (va_runV (own := R_MM) (As := [.int (nI 512), .int (nI q3)]) (rest := []) ⟨hx, hb, hml, hown, hts⟩ (c_MM_has (l := l) (g := g) (md := md) (J := J) (n := n) (v := v) (kn := kn) (pr := pr) (ar := ar) (X := X3) (s0 := 512) (cc := 4) (i := q3) (by omega) (by omega) (by omega)) (cwV 2 hts (gx_goodV wd_500 wd_502 ws_20 wd_7 wd_503) rfl rfl rfl (by decide +kernel) ⟨Nat.le_of_ble_eq_true rfl, Nat.le_of_ble_eq_true rfl⟩) (gc_preV (gc_recv hP hG (ci := 5) rfl (q0 := 0) rfl) hP hG) rfl rfl hl.1 rfl (lv_room (Nat.le_of_ble_eq_true rfl)) d_MM_makePairs_42 ⟨Nat.le_refl _, Nat.le_refl _⟩).run (fun r hr42 => ?_)
            subst hr42
            refine lv_if_eq (tgt := 71) hx hb d_MM_makePairs_45 (by decide) (mt_z fun hc45 => ?_) (mt_nz fun hc45 => ?_)
            · ---- 23F 34F 45T
              refine lv_iinc (k := 1) (v := nI (q3 + 1)) (lv' := [(3, .int (nI (q3 + 1))), (1, .int (mt_b m3)), (2, .int (nI q2)), (0, .ref (md 0))]) hx hb d_MM_makePairs_71 hl rfl (by rw [lit1]; exact nI_1 _) (by decide) rfl (fun ls hl => ?_)
              refine lv_goto (tgt := 16) hx hb d_MM_makePairs_74 (by decide) ?_
              exact ih16 _ (by omega) m3 (q3 + 1) X3 ls _ _ rfl (by omega) (mt_mk_c hm3 (fun x => mt_inn_n (A := fun y => mt_ms X 3 y = true) (B := fun z => mt_ms X 4 z = true) (f := fun y z => y &&& z) (by rw [← hm3.1 4 q3 (by omega) (by decide), hc45]; decide))) (lv_sub hl [1, 0, 2, 3] rfl) hP hD hS
            · ---- 23F 34F 45F
              refine lv_aload_n hx hb d_MM_makePairs_48 rfl (lv_at hl 3 rfl) ?_
              refine lv_sipush (v := nI 128) hx hb d_MM_makePairs_49 (by decide) ?_
              refine lv_iload_n hx hb d_MM_makePairs_52 rfl (lv_at hl 2 rfl) ?_
              refine lv_iload_n hx hb d_MM_makePairs_53 rfl (lv_at hl 1 rfl) ?_
              refine lv_iand hx hb d_MM_makePairs_54 ?_
              refine mt_ri (y := nI (q2 &&& q3)) (mt_and _ _) ?_
              refine gc_cwi (va_runV (own := R_MM) (As := [.int (nI 128), .int (nI (q2 &&& q3))]) (rest := []) ⟨hx, hb, hml, hown, hts⟩ (c_MM_put (l := l) (g := g) (md := md) (J := J) (n := n) (v := v) (kn := kn) (pr := pr) (ar := ar) (X := X3) (s0 := 128) (cc := 1) (i := q2 &&& q3) (by omega) (by omega) (by have := Nat.and_le_left (n := q2) (m := q3); omega)) (cwV 2 hts (gx_goodV wd_496 wd_498 ws_19 wd_7 wd_499) rfl rfl rfl (by decide +kernel) ⟨Nat.le_of_ble_eq_true rfl, Nat.le_of_ble_eq_true rfl⟩) (gc_preVW (gc_recv hP hG (ci := 5) rfl (q0 := 0) rfl) hP hG hD) rfl rfl hl.1 rfl (lv_room (Nat.le_of_ble_eq_true rfl)) d_MM_makePairs_55 ⟨Nat.le_refl _, Nat.le_refl _⟩) hD hS (fun r55 X55 H locs hr55 hP hD hS => ?_)
              obtain ⟨hr55, hx55⟩ := hr55
              subst hr55
              have hP : va_P g.1 gx_cl (mW g md J n v kn pr ar X55) H := hP
              have hD : va_D (gx_in (mW g md J n v kn pr ar X)) (mW g md J n v kn pr ar X55) := hD
              refine lv_if_ne (tgt := 65) hx hb d_MM_makePairs_58 (by decide) (mt_nz fun hc58 => ?_) (mt_z fun hc58 => ?_)
              · ---- 23F 34F 45F 58T
                refine lv_iconst (v := nI 1) hx hb d_MM_makePairs_65 (by decide) ?_
                refine lv_goto (tgt := 70) hx hb d_MM_makePairs_66 (by decide) ?_
                refine lv_istore_n (lv' := [(1, .int (nI 1)), (3, .int (nI q3)), (2, .int (nI q2)), (0, .ref (md 0))]) hx hb d_MM_makePairs_70 rfl hl (by decide) rfl (fun ls hl => ?_)
                refine lv_iinc (k := 1) (v := nI (q3 + 1)) (lv' := [(3, .int (nI (q3 + 1))), (1, .int (nI 1)), (2, .int (nI q2)), (0, .ref (md 0))]) hx hb d_MM_makePairs_71 hl rfl (by rw [lit1]; exact nI_1 _) (by decide) rfl (fun ls hl => ?_)
                refine lv_goto (tgt := 16) hx hb d_MM_makePairs_74 (by decide) ?_
                exact ih16 _ (by omega) true (q3 + 1) X55 ls _ _ rfl (by omega) (mt_mk_c (mt_mk_put hm3 hx55 (Nat.lt_of_le_of_lt Nat.and_le_left (show q2 < 8192 by omega)) (by rw [hc58]; rfl)) (fun x => mt_inn (A := fun y => mt_ms X 3 y = true) (B := fun z => mt_ms X 4 z = true) (f := fun y z => y &&& z) (by rw [← hm3.1 3 q2 (by omega) (by decide)]; exact hc34) (by rw [← hm3.1 4 q3 (by omega) (by decide)]; exact hc45))) (lv_sub hl [1, 0, 2, 3] rfl) hP hD hS
              · ---- 23F 34F 45F 58F
                refine lv_iload_n hx hb d_MM_makePairs_61 rfl (lv_at hl 0 rfl) ?_
                refine lv_if_eq (tgt := 69) hx hb d_MM_makePairs_62 (by decide) (mt_z fun hc62 => ?_) (mt_nz fun hc62 => ?_)
                · ---- 23F 34F 45F 58F 62T
                  refine lv_iconst (v := nI 0) hx hb d_MM_makePairs_69 (by decide) ?_
                  refine lv_istore_n (lv' := [(1, .int (nI 0)), (3, .int (nI q3)), (2, .int (nI q2)), (0, .ref (md 0))]) hx hb d_MM_makePairs_70 rfl hl (by decide) rfl (fun ls hl => ?_)
                  refine lv_iinc (k := 1) (v := nI (q3 + 1)) (lv' := [(3, .int (nI (q3 + 1))), (1, .int (nI 0)), (2, .int (nI q2)), (0, .ref (md 0))]) hx hb d_MM_makePairs_71 hl rfl (by rw [lit1]; exact nI_1 _) (by decide) rfl (fun ls hl => ?_)
                  refine lv_goto (tgt := 16) hx hb d_MM_makePairs_74 (by decide) ?_
                  exact ih16 _ (by omega) false (q3 + 1) X55 ls _ _ rfl (by omega) (mt_mk_c (mt_mk_put hm3 hx55 (Nat.lt_of_le_of_lt Nat.and_le_left (show q2 < 8192 by omega)) (by rw [hc58, hc62]; rfl)) (fun x => mt_inn (A := fun y => mt_ms X 3 y = true) (B := fun z => mt_ms X 4 z = true) (f := fun y z => y &&& z) (by rw [← hm3.1 3 q2 (by omega) (by decide)]; exact hc34) (by rw [← hm3.1 4 q3 (by omega) (by decide)]; exact hc45))) (lv_sub hl [1, 0, 2, 3] rfl) hP hD hS
                · ---- 23F 34F 45F 58F 62F
                  refine lv_iconst (v := nI 1) hx hb d_MM_makePairs_65 (by decide) ?_
                  refine lv_goto (tgt := 70) hx hb d_MM_makePairs_66 (by decide) ?_
                  refine lv_istore_n (lv' := [(1, .int (nI 1)), (3, .int (nI q3)), (2, .int (nI q2)), (0, .ref (md 0))]) hx hb d_MM_makePairs_70 rfl hl (by decide) rfl (fun ls hl => ?_)
                  refine lv_iinc (k := 1) (v := nI (q3 + 1)) (lv' := [(3, .int (nI (q3 + 1))), (1, .int (nI 1)), (2, .int (nI q2)), (0, .ref (md 0))]) hx hb d_MM_makePairs_71 hl rfl (by rw [lit1]; exact nI_1 _) (by decide) rfl (fun ls hl => ?_)
                  refine lv_goto (tgt := 16) hx hb d_MM_makePairs_74 (by decide) ?_
                  exact ih16 _ (by omega) true (q3 + 1) X55 ls _ _ rfl (by omega) (mt_mk_c (mt_mk_put hm3 hx55 (Nat.lt_of_le_of_lt Nat.and_le_left (show q2 < 8192 by omega)) (by rw [hc58, hc62]; rfl)) (fun x => mt_inn (A := fun y => mt_ms X 3 y = true) (B := fun z => mt_ms X 4 z = true) (f := fun y z => y &&& z) (by rw [← hm3.1 3 q2 (by omega) (by decide)]; exact hc34) (by rw [← hm3.1 4 q3 (by omega) (by decide)]; exact hc45))) (lv_sub hl [1, 0, 2, 3] rfl) hP hD hS
      exact lp16 _ mm 0 X1 ls _ _ rfl (Nat.zero_le _) (mt_mk_c hm (fun x => ⟨Or.inl, fun h9 => h9.elim id (fun ⟨z, h8, _⟩ => absurd h8 (by omega))⟩)) (lv_sub hl [1, 0, 2, 3] rfl) hP hD hS
  exact lp4 _ false 0 X ls _ _ rfl (Nat.zero_le _) (mt_mk_0 (fun x h9 => by obtain ⟨y, z, h8, _⟩ := h9; omega)) (lv_sub hl [1, 0, 2] rfl) hP hD hS
