set_option maxHeartbeats 4000000 in
set_option maxRecDepth 100000 in
theorem c_MM_work {g : gG} {md : Nat → Nat} {J : Nat → Nat → Int32} {n v kn pr ar : Nat} {X : Nat → Int64} {k a b : Nat → Nat} {nn : Nat} {l : Launch} (hT : mt_MT J nn k a b) (hn13 : nn ≤ 13) (hw : mt_wf k a b nn) (hkn : kn ≤ 13) (hK : kn = nn → 0 < nn → mt_KN (J 9) pr ar X k a b nn) :
    gc_RV (S := ((Nat → Int32) × Nat × Nat × Nat × (Nat → Int64))) l y_MM_work (gx_ws y_MM_work b_MM_work 3 none) 4 90 g [.ref (md 0), .int (nI nn)] (mW g md J n v kn pr ar X) (fun (u : ((Nat → Int32) × Nat × Nat × Nat × (Nat → Int64))) => mW g md (va_up J 9 u.1) n v u.2.1 u.2.2.1 u.2.2.2.1 u.2.2.2.2) (fun (u : ((Nat → Int32) × Nat × Nat × Nat × (Nat → Int64))) => u.2.1 = nn ∧ mt_KN u.1 u.2.2.1 u.2.2.2.1 u.2.2.2.2 k a b nn) := by
  refine gx_body (by decide) (Nat.le_of_ble_eq_true rfl) ?_
  intro p e s m below meth c ls hAt hB hl
  obtain ⟨hx, hb, hml, hown, hts, hr, hlk, hnm⟩ := hAt
  have hown : s.vm.findClass R_MM = some m.cls := hown
  obtain ⟨⟨hP, hG⟩, hD0⟩ := hB
  have hD := gx_D.self hD0
  have hS : va_S (gx_in (mW g md J n v kn pr ar X)) s.heap s.heap [] := va_S.rf
  have hl : lv_has ls 3 [(0, .ref (md 0)), (1, .int (nI nn))] := hl
  have hpr0 := mt_ct_n (k := k) (w := 1) nn
  have har0 := mt_ct_n (k := k) (w := 2) nn
  refine lv_aload_n hx hb d_MM_work_0 rfl (lv_at hl 0 rfl) ?_
  refine va_get (D := g.1) (own := R_MM) (ref := R_MM) (ci := 5) (v := .int (nI kn)) (C := R_MM) (T := F_MM) (N := 16) hx hb hts in_MM hown hG.1 hP 0 rfl rfl 12 (by decide) (hts _ wd_395) (fun _ h9 => h9) rfl d_MM_work_1 ?_
  refine lv_iload_n hx hb d_MM_work_4 rfl (lv_at hl 1 rfl) ?_
  refine lv_icmp_ne (tgt := 13) hx hb d_MM_work_5 (by decide) (mt_ne (by omega) (by omega) fun hc5 => ?_) (mt_eq (by omega) (by omega) fun hc5 => ?_)
  · ---- 5T
    refine lv_aload_n hx hb d_MM_work_13 rfl (lv_at hl 0 rfl) ?_
    refine lv_iload_n hx hb d_MM_work_14 rfl (lv_at hl 1 rfl) ?_
    refine gc_cwv (va_runV (own := R_MM) (As := [.int (nI nn)]) (rest := []) ⟨hx, hb, hml, hown, hts⟩ (c_MM_number (l := l) (g := g) (md := md) (J := J) (n := n) (v := v) (kn := kn) (pr := pr) (ar := ar) (X := X) (k := k) (a := a) (b := b) (nn := nn) hT (by omega) hw) (cwV 1 hts (gx_goodV wd_488 wd_490 ws_17 wd_7 wd_491) rfl rfl rfl (by decide +kernel) ⟨Nat.le_of_ble_eq_true rfl, Nat.le_of_ble_eq_true rfl⟩) (gc_preVW (gc_recv hP hG (ci := 5) rfl (q0 := 0) rfl) hP hG hD) rfl rfl hl.1 rfl (lv_room (Nat.le_of_ble_eq_true rfl)) d_MM_work_15 ⟨Nat.le_refl _, Nat.le_refl _⟩) hD hS (fun P15 H locs hnu15 hP hD hS => ?_)
    have hP : va_P g.1 gx_cl (mW g md (va_up J 9 P15) n v kn (mt_ct k 1 nn) (mt_ct k 2 nn) X) H := hP
    have hD : va_D (gx_in (mW g md J n v kn pr ar X)) (mW g md (va_up J 9 P15) n v kn (mt_ct k 1 nn) (mt_ct k 2 nn) X) := hD
    have hT := mt_MT_9 (P := P15) hT
    have hN : mt_NU (va_up J 9 P15) (mt_ct k 1 nn) (mt_ct k 2 nn) nn k := ⟨rfl, rfl, fun t ht => by rw [va_up_self]; exact hnu15 t ht⟩
    refine lv_aload_n hx hb d_MM_work_18 rfl (lv_at hl 0 rfl) ?_
    refine lv_sipush (v := nI 128) hx hb d_MM_work_19 (by decide) ?_
    refine gc_cwv (va_runV (own := R_MM) (As := [.int (nI 128)]) (rest := []) ⟨hx, hb, hml, hown, hts⟩ (c_MM_clear (l := l) (g := g) (md := md) (J := va_up J 9 P15) (n := n) (v := v) (kn := kn) (pr := mt_ct k 1 nn) (ar := mt_ct k 2 nn) (X := X) (s0 := 128) (cc := 1) (by omega) (by omega)) (cwV 1 hts (gx_goodV wd_492 wd_494 ws_18 wd_7 wd_495) rfl rfl rfl (by decide +kernel) ⟨Nat.le_of_ble_eq_true rfl, Nat.le_of_ble_eq_true rfl⟩) (gc_preVW (gc_recv hP hG (ci := 5) rfl (q0 := 0) rfl) hP hG hD) rfl rfl hl.1 rfl (lv_room (Nat.le_of_ble_eq_true rfl)) d_MM_work_22 ⟨Nat.le_refl _, Nat.le_refl _⟩) hD hS (fun X22 H locs hx22 hP hD hS => ?_)
    have hP : va_P g.1 gx_cl (mW g md (va_up J 9 P15) n v kn (mt_ct k 1 nn) (mt_ct k 2 nn) X22) H := hP
    have hD : va_D (gx_in (mW g md J n v kn pr ar X)) (mW g md (va_up J 9 P15) n v kn (mt_ct k 1 nn) (mt_ct k 2 nn) X22) := hD
    refine lv_aload_n hx hb d_MM_work_25 rfl (lv_at hl 0 rfl) ?_
    refine lv_sipush (v := nI 256) hx hb d_MM_work_26 (by decide) ?_
    refine gc_cwv (va_runV (own := R_MM) (As := [.int (nI 256)]) (rest := []) ⟨hx, hb, hml, hown, hts⟩ (c_MM_clear (l := l) (g := g) (md := md) (J := va_up J 9 P15) (n := n) (v := v) (kn := kn) (pr := mt_ct k 1 nn) (ar := mt_ct k 2 nn) (X := X22) (s0 := 256) (cc := 2) (by omega) (by omega)) (cwV 1 hts (gx_goodV wd_492 wd_494 ws_18 wd_7 wd_495) rfl rfl rfl (by decide +kernel) ⟨Nat.le_of_ble_eq_true rfl, Nat.le_of_ble_eq_true rfl⟩) (gc_preVW (gc_recv hP hG (ci := 5) rfl (q0 := 0) rfl) hP hG hD) rfl rfl hl.1 rfl (lv_room (Nat.le_of_ble_eq_true rfl)) d_MM_work_29 ⟨Nat.le_refl _, Nat.le_refl _⟩) hD hS (fun X29 H locs hx29 hP hD hS => ?_)
    have hP : va_P g.1 gx_cl (mW g md (va_up J 9 P15) n v kn (mt_ct k 1 nn) (mt_ct k 2 nn) X29) H := hP
    have hD : va_D (gx_in (mW g md J n v kn pr ar X)) (mW g md (va_up J 9 P15) n v kn (mt_ct k 1 nn) (mt_ct k 2 nn) X29) := hD
    refine lv_aload_n hx hb d_MM_work_32 rfl (lv_at hl 0 rfl) ?_
    refine lv_sipush (v := nI 256) hx hb d_MM_work_33 (by decide) ?_
    refine lv_iconst (v := nI 0) hx hb d_MM_work_36 (by decide) ?_
    refine gc_cwi (va_runV (own := R_MM) (As := [.int (nI 256), .int (nI 0)]) (rest := []) ⟨hx, hb, hml, hown, hts⟩ (c_MM_put (l := l) (g := g) (md := md) (J := va_up J 9 P15) (n := n) (v := v) (kn := kn) (pr := mt_ct k 1 nn) (ar := mt_ct k 2 nn) (X := X29) (s0 := 256) (cc := 2) (i := 0) (by omega) (by omega) (by omega)) (cwV 2 hts (gx_goodV wd_496 wd_498 ws_19 wd_7 wd_499) rfl rfl rfl (by decide +kernel) ⟨Nat.le_of_ble_eq_true rfl, Nat.le_of_ble_eq_true rfl⟩) (gc_preVW (gc_recv hP hG (ci := 5) rfl (q0 := 0) rfl) hP hG hD) rfl rfl hl.1 rfl (lv_room (Nat.le_of_ble_eq_true rfl)) d_MM_work_37 ⟨Nat.le_refl _, Nat.le_refl _⟩) hD hS (fun r37 X37 H locs hr37 hP hD hS => ?_)
    obtain ⟨hr37, hx37⟩ := hr37
    subst hr37
    have hP : va_P g.1 gx_cl (mW g md (va_up J 9 P15) n v kn (mt_ct k 1 nn) (mt_ct k 2 nn) X37) H := hP
    have hD : va_D (gx_in (mW g md J n v kn pr ar X)) (mW g md (va_up J 9 P15) n v kn (mt_ct k 1 nn) (mt_ct k 2 nn) X37) := hD
    refine lv_pop hx hb d_MM_work_40 rfl ?_
    refine lv_iconst (v := nI 1) hx hb d_MM_work_41 (by decide) ?_
    refine lv_istore_n (lv' := [(2, .int (nI 1)), (0, .ref (md 0)), (1, .int (nI nn))]) hx hb d_MM_work_42 rfl hl (by decide) rfl (fun ls hl => ?_)
    have lp43 : ∀ (d : Nat) (mo : Bool) (X1 : Nat → Int64) (ls : Array Slot) (H : Heap) (locs : List Loc), d = 2 * mt_mu X1 + mo.toNat → (mt_WK k a b nn (mt_ct k 2 nn) X1) → (mo = false → ∀ z, z < 8192 → (mt_ms X1 0 z = true ↔ mt_R k a b nn z)) → lv_has ls 3 [(2, .int (mt_b mo)), (0, .ref (md 0)), (1, .int (nI nn))] → va_P g.1 gx_cl (mW g md (va_up J 9 P15) n v kn (mt_ct k 1 nn) (mt_ct k 2 nn) X1) H → va_D (gx_in (mW g md J n v kn pr ar X)) (mW g md (va_up J 9 P15) n v kn (mt_ct k 1 nn) (mt_ct k 2 nn) X1) → va_S (gx_in (mW g md J n v kn pr ar X)) s.heap H locs → W p l e (gx_rm 4 90) s m ([.ref (md 0), .int (nI nn)] : List Value).toArray below meth c H locs 0 0 (MQ below (va_Qv (fun (u : ((Nat → Int32) × Nat × Nat × Nat × (Nat → Int64))) => u.2.1 = nn ∧ mt_KN u.1 u.2.2.1 u.2.2.2.1 u.2.2.2.2 k a b nn) (fun u9 t9 => va_P g.1 gx_cl ((fun (u : ((Nat → Int32) × Nat × Nat × Nat × (Nat → Int64))) => mW g md (va_up J 9 u.1) n v u.2.1 u.2.2.1 u.2.2.2.1 u.2.2.2.2) u9) t9.heap ∧ va_D (gx_in (mW g md J n v kn pr ar X)) ((fun (u : ((Nat → Int32) × Nat × Nat × Nat × (Nat → Int64))) => mW g md (va_up J 9 u.1) n v u.2.1 u.2.2.1 u.2.2.2.1 u.2.2.2.2) u9)) (gx_in (mW g md J n v kn pr ar X))) ([.ref (md 0), .int (nI nn)] : List Value).toArray s 0 0 (gx_in (mW g md J n v kn pr ar X))) (F0 m 43 ls []) := by
      intro d
      induction d using Nat.strongRecOn with
      | ind d ih43 =>
      intro mo X1 ls H locs hd hW hf hl hP hD hS
      refine lv_iload_n hx hb d_MM_work_43 rfl (lv_at hl 0 rfl) ?_
      refine lv_if_eq (tgt := 77) hx hb d_MM_work_44 (by decide) (mt_z fun hc44 => ?_) (mt_nz fun hc44 => ?_)
      · ---- 44T
        refine lv_aload_n hx hb d_MM_work_77 rfl (lv_at hl 1 rfl) ?_
        refine lv_iload_n hx hb d_MM_work_78 rfl (lv_at hl 2 rfl) ?_
        refine va_put (D := g.1) (own := R_MM) (ref := R_MM) (ci := 5) (v := .int (nI nn)) (ty := .int) (C := R_MM) (T := F_MM) (N := 16) hx hb hts in_MM t_MM t_MM_ok n_MM hown hG.1 hP hD hS 0 rfl rfl 12 (by decide) (hts _ wd_395) (fun _ h9 => h9) rfl (by decide +kernel) rfl rfl (Nat.le_of_ble_eq_true rfl) d_MM_work_79 (fun H locs hP hD hS => ?_)
        have hP : va_P g.1 gx_cl (mW g md (va_up J 9 P15) n v nn (mt_ct k 1 nn) (mt_ct k 2 nn) X1) H := hP
        have hD : va_D (gx_in (mW g md J n v kn pr ar X)) (mW g md (va_up J 9 P15) n v nn (mt_ct k 1 nn) (mt_ct k 2 nn) X1) := hD
        exact gc_retv (u := ((P15, nn, mt_ct k 1 nn, mt_ct k 2 nn, X1))) (Wf := fun (u : ((Nat → Int32) × Nat × Nat × Nat × (Nat → Int64))) => mW g md (va_up J 9 u.1) n v u.2.1 u.2.2.1 u.2.2.2.1 u.2.2.2.2) (post := fun (u : ((Nat → Int32) × Nat × Nat × Nat × (Nat → Int64))) => u.2.1 = nn ∧ mt_KN u.1 u.2.2.1 u.2.2.2.1 u.2.2.2.2 k a b nn) hx hb hr hlk (⟨rfl, ⟨rfl, rfl, hnu15⟩, hf hc44⟩) hP hD hS d_MM_work_82
      · ---- 44F
        refine lv_aload_n hx hb d_MM_work_47 rfl (lv_at hl 1 rfl) ?_
        refine lv_iload_n hx hb d_MM_work_48 rfl (lv_at hl 2 rfl) ?_
        refine gc_cwv (va_runV (own := R_MM) (As := [.int (nI nn)]) (rest := []) ⟨hx, hb, hml, hown, hts⟩ (c_MM_collect (l := l) (g := g) (md := md) (J := va_up J 9 P15) (n := n) (v := v) (kn := kn) (pr := mt_ct k 1 nn) (ar := mt_ct k 2 nn) (X := X1) (k := k) (a := a) (b := b) (nn := nn) hT (by omega) hw hN) (cwV 1 hts (gx_goodV wd_504 wd_506 ws_21 wd_7 wd_507) rfl rfl rfl (by decide +kernel) ⟨Nat.le_of_ble_eq_true rfl, Nat.le_of_ble_eq_true rfl⟩) (gc_preVW (gc_recv hP hG (ci := 5) rfl (q0 := 0) rfl) hP hG hD) rfl rfl hl.1 rfl (lv_room (Nat.le_of_ble_eq_true rfl)) d_MM_work_49 ⟨Nat.le_refl _, Nat.le_refl _⟩) hD hS (fun X49 H locs hco49 hP hD hS => ?_)
        have hP : va_P g.1 gx_cl (mW g md (va_up J 9 P15) n v kn (mt_ct k 1 nn) (mt_ct k 2 nn) X49) H := hP
        have hD : va_D (gx_in (mW g md J n v kn pr ar X)) (mW g md (va_up J 9 P15) n v kn (mt_ct k 1 nn) (mt_ct k 2 nn) X49) := hD
        refine lv_aload_n hx hb d_MM_work_52 rfl (lv_at hl 1 rfl) ?_
        refine gc_cwi (va_runV (own := R_MM) (As := []) (rest := []) ⟨hx, hb, hml, hown, hts⟩ (c_MM_makePairs (l := l) (g := g) (md := md) (J := va_up J 9 P15) (n := n) (v := v) (kn := kn) (pr := mt_ct k 1 nn) (ar := mt_ct k 2 nn) (X := X49) (by omega)) (cwV 0 hts (gx_goodV wd_520 wd_522 ws_25 wd_7 wd_523) rfl rfl rfl (by decide +kernel) ⟨Nat.le_of_ble_eq_true rfl, Nat.le_of_ble_eq_true rfl⟩) (gc_preVW (gc_recv hP hG (ci := 5) rfl (q0 := 0) rfl) hP hG hD) rfl rfl hl.1 rfl (lv_room (Nat.le_of_ble_eq_true rfl)) d_MM_work_53 ⟨Nat.le_refl _, Nat.le_refl _⟩) hD hS (fun r53 X53 H locs hr53 hP hD hS => ?_)
        obtain ⟨z53, hr8, hm53⟩ := hr53
        subst hr8
        have hP : va_P g.1 gx_cl (mW g md (va_up J 9 P15) n v kn (mt_ct k 1 nn) (mt_ct k 2 nn) X53) H := hP
        have hD : va_D (gx_in (mW g md J n v kn pr ar X)) (mW g md (va_up J 9 P15) n v kn (mt_ct k 1 nn) (mt_ct k 2 nn) X53) := hD
        refine lv_istore_n (lv' := [(2, .int (mt_b z53)), (0, .ref (md 0)), (1, .int (nI nn))]) hx hb d_MM_work_56 rfl hl (by decide) rfl (fun ls hl => ?_)
        refine lv_aload_n hx hb d_MM_work_57 rfl (lv_at hl 1 rfl) ?_
        refine gc_cwi (va_runV (own := R_MM) (As := []) (rest := []) ⟨hx, hb, hml, hown, hts⟩ (c_MM_makeFunctions (l := l) (g := g) (md := md) (J := va_up J 9 P15) (n := n) (v := v) (kn := kn) (pr := mt_ct k 1 nn) (ar := mt_ct k 2 nn) (X := X53) (by omega) (mt_wk_cs hW hco49 hm53)) (cwV 0 hts (gx_goodV wd_524 wd_526 ws_26 wd_7 wd_527) rfl rfl rfl (by decide +kernel) ⟨Nat.le_of_ble_eq_true rfl, Nat.le_of_ble_eq_true rfl⟩) (gc_preVW (gc_recv hP hG (ci := 5) rfl (q0 := 0) rfl) hP hG hD) rfl rfl hl.1 rfl (lv_room (Nat.le_of_ble_eq_true rfl)) d_MM_work_58 ⟨Nat.le_refl _, Nat.le_refl _⟩) hD hS (fun r58 X58 H locs hr58 hP hD hS => ?_)
        obtain ⟨z58, hr8, hm58⟩ := hr58
        subst hr8
        have hP : va_P g.1 gx_cl (mW g md (va_up J 9 P15) n v kn (mt_ct k 1 nn) (mt_ct k 2 nn) X58) H := hP
        have hD : va_D (gx_in (mW g md J n v kn pr ar X)) (mW g md (va_up J 9 P15) n v kn (mt_ct k 1 nn) (mt_ct k 2 nn) X58) := hD
        refine lv_if_ne (tgt := 68) hx hb d_MM_work_61 (by decide) (mt_nz fun hc61 => ?_) (mt_z fun hc61 => ?_)
        · ---- 44F 61T
          refine lv_iconst (v := nI 1) hx hb d_MM_work_68 (by decide) ?_
          refine lv_goto (tgt := 73) hx hb d_MM_work_69 (by decide) ?_
          refine mt_ri (y := mt_b true) rfl ?_
          refine lv_istore_n (lv' := [(2, .int (mt_b true)), (0, .ref (md 0)), (1, .int (nI nn))]) hx hb d_MM_work_73 rfl hl (by decide) rfl (fun ls hl => ?_)
          have hst := mt_wk_step hw hn13 hW hco49 hm53 hm58
          have hmu : 2 * mt_mu X58 + Bool.toNat true < d := by (have h1 := hst.2.2.1; have h2 := hst.2.2.2 (by rw [hc61]; rfl); rw [hc44] at hd; simp only [Bool.toNat_true, Bool.toNat_false] at hd ⊢; omega)
          refine lv_goto (tgt := 43) hx hb d_MM_work_74 (by decide) ?_
          exact ih43 _ (hmu) true X58 ls _ _ rfl (hst.1) (fun h9 => by cases h9) (lv_sub hl [0, 1, 2] rfl) hP hD hS
        · ---- 44F 61F
          refine lv_iload_n hx hb d_MM_work_64 rfl (lv_at hl 0 rfl) ?_
          refine lv_if_eq (tgt := 72) hx hb d_MM_work_65 (by decide) (mt_z fun hc65 => ?_) (mt_nz fun hc65 => ?_)
          · ---- 44F 61F 65T
            refine lv_iconst (v := nI 0) hx hb d_MM_work_72 (by decide) ?_
            refine mt_ri (y := mt_b false) rfl ?_
            refine lv_istore_n (lv' := [(2, .int (mt_b false)), (0, .ref (md 0)), (1, .int (nI nn))]) hx hb d_MM_work_73 rfl hl (by decide) rfl (fun ls hl => ?_)
            have hst := mt_wk_step hw hn13 hW hco49 hm53 hm58
            have hmu : 2 * mt_mu X58 + Bool.toNat false < d := by (have h1 := hst.2.2.1; rw [hc44] at hd; simp only [Bool.toNat_true, Bool.toNat_false] at hd ⊢; omega)
            refine lv_goto (tgt := 43) hx hb d_MM_work_74 (by decide) ?_
            exact ih43 _ (hmu) false X58 ls _ _ rfl (hst.1) (fun _ => hst.2.1 (by rw [hc61, hc65]; rfl)) (lv_sub hl [0, 1, 2] rfl) hP hD hS
          · ---- 44F 61F 65F
            refine lv_iconst (v := nI 1) hx hb d_MM_work_68 (by decide) ?_
            refine lv_goto (tgt := 73) hx hb d_MM_work_69 (by decide) ?_
            refine mt_ri (y := mt_b true) rfl ?_
            refine lv_istore_n (lv' := [(2, .int (mt_b true)), (0, .ref (md 0)), (1, .int (nI nn))]) hx hb d_MM_work_73 rfl hl (by decide) rfl (fun ls hl => ?_)
            have hst := mt_wk_step hw hn13 hW hco49 hm53 hm58
            have hmu : 2 * mt_mu X58 + Bool.toNat true < d := by (have h1 := hst.2.2.1; have h2 := hst.2.2.2 (by rw [hc61, hc65]; rfl); rw [hc44] at hd; simp only [Bool.toNat_true, Bool.toNat_false] at hd ⊢; omega)
            refine lv_goto (tgt := 43) hx hb d_MM_work_74 (by decide) ?_
            exact ih43 _ (hmu) true X58 ls _ _ rfl (hst.1) (fun h9 => by cases h9) (lv_sub hl [0, 1, 2] rfl) hP hD hS
    exact lp43 _ true X37 ls _ _ rfl (mt_wk_0 hx22 hx29 hx37) (fun h9 => by cases h9) (lv_sub hl [0, 1, 2] rfl) hP hD hS
  · ---- 5F
    refine lv_iload_n hx hb d_MM_work_8 rfl (lv_at hl 1 rfl) ?_
    refine lv_if_le (tgt := 13) hx hb d_MM_work_9 (by decide) (mt_le (b := 0) (by omega) (by decide) fun hc9 => ?_) (mt_nle (b := 0) (by omega) (by decide) fun hc9 => ?_)
    · ---- 5F 9T
      refine lv_aload_n hx hb d_MM_work_13 rfl (lv_at hl 0 rfl) ?_
      refine lv_iload_n hx hb d_MM_work_14 rfl (lv_at hl 1 rfl) ?_
      refine gc_cwv (va_runV (own := R_MM) (As := [.int (nI nn)]) (rest := []) ⟨hx, hb, hml, hown, hts⟩ (c_MM_number (l := l) (g := g) (md := md) (J := J) (n := n) (v := v) (kn := kn) (pr := pr) (ar := ar) (X := X) (k := k) (a := a) (b := b) (nn := nn) hT (by omega) hw) (cwV 1 hts (gx_goodV wd_488 wd_490 ws_17 wd_7 wd_491) rfl rfl rfl (by decide +kernel) ⟨Nat.le_of_ble_eq_true rfl, Nat.le_of_ble_eq_true rfl⟩) (gc_preVW (gc_recv hP hG (ci := 5) rfl (q0 := 0) rfl) hP hG hD) rfl rfl hl.1 rfl (lv_room (Nat.le_of_ble_eq_true rfl)) d_MM_work_15 ⟨Nat.le_refl _, Nat.le_refl _⟩) hD hS (fun P15 H locs hnu15 hP hD hS => ?_)
      have hP : va_P g.1 gx_cl (mW g md (va_up J 9 P15) n v kn (mt_ct k 1 nn) (mt_ct k 2 nn) X) H := hP
      have hD : va_D (gx_in (mW g md J n v kn pr ar X)) (mW g md (va_up J 9 P15) n v kn (mt_ct k 1 nn) (mt_ct k 2 nn) X) := hD
      have hT := mt_MT_9 (P := P15) hT
      have hN : mt_NU (va_up J 9 P15) (mt_ct k 1 nn) (mt_ct k 2 nn) nn k := ⟨rfl, rfl, fun t ht => by rw [va_up_self]; exact hnu15 t ht⟩
      refine lv_aload_n hx hb d_MM_work_18 rfl (lv_at hl 0 rfl) ?_
      refine lv_sipush (v := nI 128) hx hb d_MM_work_19 (by decide) ?_
      refine gc_cwv (va_runV (own := R_MM) (As := [.int (nI 128)]) (rest := []) ⟨hx, hb, hml, hown, hts⟩ (c_MM_clear (l := l) (g := g) (md := md) (J := va_up J 9 P15) (n := n) (v := v) (kn := kn) (pr := mt_ct k 1 nn) (ar := mt_ct k 2 nn) (X := X) (s0 := 128) (cc := 1) (by omega) (by omega)) (cwV 1 hts (gx_goodV wd_492 wd_494 ws_18 wd_7 wd_495) rfl rfl rfl (by decide +kernel) ⟨Nat.le_of_ble_eq_true rfl, Nat.le_of_ble_eq_true rfl⟩) (gc_preVW (gc_recv hP hG (ci := 5) rfl (q0 := 0) rfl) hP hG hD) rfl rfl hl.1 rfl (lv_room (Nat.le_of_ble_eq_true rfl)) d_MM_work_22 ⟨Nat.le_refl _, Nat.le_refl _⟩) hD hS (fun X22 H locs hx22 hP hD hS => ?_)
      have hP : va_P g.1 gx_cl (mW g md (va_up J 9 P15) n v kn (mt_ct k 1 nn) (mt_ct k 2 nn) X22) H := hP
      have hD : va_D (gx_in (mW g md J n v kn pr ar X)) (mW g md (va_up J 9 P15) n v kn (mt_ct k 1 nn) (mt_ct k 2 nn) X22) := hD
      refine lv_aload_n hx hb d_MM_work_25 rfl (lv_at hl 0 rfl) ?_
      refine lv_sipush (v := nI 256) hx hb d_MM_work_26 (by decide) ?_
      refine gc_cwv (va_runV (own := R_MM) (As := [.int (nI 256)]) (rest := []) ⟨hx, hb, hml, hown, hts⟩ (c_MM_clear (l := l) (g := g) (md := md) (J := va_up J 9 P15) (n := n) (v := v) (kn := kn) (pr := mt_ct k 1 nn) (ar := mt_ct k 2 nn) (X := X22) (s0 := 256) (cc := 2) (by omega) (by omega)) (cwV 1 hts (gx_goodV wd_492 wd_494 ws_18 wd_7 wd_495) rfl rfl rfl (by decide +kernel) ⟨Nat.le_of_ble_eq_true rfl, Nat.le_of_ble_eq_true rfl⟩) (gc_preVW (gc_recv hP hG (ci := 5) rfl (q0 := 0) rfl) hP hG hD) rfl rfl hl.1 rfl (lv_room (Nat.le_of_ble_eq_true rfl)) d_MM_work_29 ⟨Nat.le_refl _, Nat.le_refl _⟩) hD hS (fun X29 H locs hx29 hP hD hS => ?_)
      have hP : va_P g.1 gx_cl (mW g md (va_up J 9 P15) n v kn (mt_ct k 1 nn) (mt_ct k 2 nn) X29) H := hP
      have hD : va_D (gx_in (mW g md J n v kn pr ar X)) (mW g md (va_up J 9 P15) n v kn (mt_ct k 1 nn) (mt_ct k 2 nn) X29) := hD
      refine lv_aload_n hx hb d_MM_work_32 rfl (lv_at hl 0 rfl) ?_
      refine lv_sipush (v := nI 256) hx hb d_MM_work_33 (by decide) ?_
      refine lv_iconst (v := nI 0) hx hb d_MM_work_36 (by decide) ?_
      refine gc_cwi (va_runV (own := R_MM) (As := [.int (nI 256), .int (nI 0)]) (rest := []) ⟨hx, hb, hml, hown, hts⟩ (c_MM_put (l := l) (g := g) (md := md) (J := va_up J 9 P15) (n := n) (v := v) (kn := kn) (pr := mt_ct k 1 nn) (ar := mt_ct k 2 nn) (X := X29) (s0 := 256) (cc := 2) (i := 0) (by omega) (by omega) (by omega)) (cwV 2 hts (gx_goodV wd_496 wd_498 ws_19 wd_7 wd_499) rfl rfl rfl (by decide +kernel) ⟨Nat.le_of_ble_eq_true rfl, Nat.le_of_ble_eq_true rfl⟩) (gc_preVW (gc_recv hP hG (ci := 5) rfl (q0 := 0) rfl) hP hG hD) rfl rfl hl.1 rfl (lv_room (Nat.le_of_ble_eq_true rfl)) d_MM_work_37 ⟨Nat.le_refl _, Nat.le_refl _⟩) hD hS (fun r37 X37 H locs hr37 hP hD hS => ?_)
      obtain ⟨hr37, hx37⟩ := hr37
      subst hr37
      have hP : va_P g.1 gx_cl (mW g md (va_up J 9 P15) n v kn (mt_ct k 1 nn) (mt_ct k 2 nn) X37) H := hP
      have hD : va_D (gx_in (mW g md J n v kn pr ar X)) (mW g md (va_up J 9 P15) n v kn (mt_ct k 1 nn) (mt_ct k 2 nn) X37) := hD
      refine lv_pop hx hb d_MM_work_40 rfl ?_
      refine lv_iconst (v := nI 1) hx hb d_MM_work_41 (by decide) ?_
      refine lv_istore_n (lv' := [(2, .int (nI 1)), (0, .ref (md 0)), (1, .int (nI nn))]) hx hb d_MM_work_42 rfl hl (by decide) rfl (fun ls hl => ?_)
      have lp43 : ∀ (d : Nat) (mo : Bool) (X1 : Nat → Int64) (ls : Array Slot) (H : Heap) (locs : List Loc), d = 2 * mt_mu X1 + mo.toNat → (mt_WK k a b nn (mt_ct k 2 nn) X1) → (mo = false → ∀ z, z < 8192 → (mt_ms X1 0 z = true ↔ mt_R k a b nn z)) → lv_has ls 3 [(2, .int (mt_b mo)), (0, .ref (md 0)), (1, .int (nI nn))] → va_P g.1 gx_cl (mW g md (va_up J 9 P15) n v kn (mt_ct k 1 nn) (mt_ct k 2 nn) X1) H → va_D (gx_in (mW g md J n v kn pr ar X)) (mW g md (va_up J 9 P15) n v kn (mt_ct k 1 nn) (mt_ct k 2 nn) X1) → va_S (gx_in (mW g md J n v kn pr ar X)) s.heap H locs → W p l e (gx_rm 4 90) s m ([.ref (md 0), .int (nI nn)] : List Value).toArray below meth c H locs 0 0 (MQ below (va_Qv (fun (u : ((Nat → Int32) × Nat × Nat × Nat × (Nat → Int64))) => u.2.1 = nn ∧ mt_KN u.1 u.2.2.1 u.2.2.2.1 u.2.2.2.2 k a b nn) (fun u9 t9 => va_P g.1 gx_cl ((fun (u : ((Nat → Int32) × Nat × Nat × Nat × (Nat → Int64))) => mW g md (va_up J 9 u.1) n v u.2.1 u.2.2.1 u.2.2.2.1 u.2.2.2.2) u9) t9.heap ∧ va_D (gx_in (mW g md J n v kn pr ar X)) ((fun (u : ((Nat → Int32) × Nat × Nat × Nat × (Nat → Int64))) => mW g md (va_up J 9 u.1) n v u.2.1 u.2.2.1 u.2.2.2.1 u.2.2.2.2) u9)) (gx_in (mW g md J n v kn pr ar X))) ([.ref (md 0), .int (nI nn)] : List Value).toArray s 0 0 (gx_in (mW g md J n v kn pr ar X))) (F0 m 43 ls []) := by
        intro d
        induction d using Nat.strongRecOn with
        | ind d ih43 =>
        intro mo X1 ls H locs hd hW hf hl hP hD hS
        refine lv_iload_n hx hb d_MM_work_43 rfl (lv_at hl 0 rfl) ?_
        refine lv_if_eq (tgt := 77) hx hb d_MM_work_44 (by decide) (mt_z fun hc44 => ?_) (mt_nz fun hc44 => ?_)
        · ---- 44T
          refine lv_aload_n hx hb d_MM_work_77 rfl (lv_at hl 1 rfl) ?_
          refine lv_iload_n hx hb d_MM_work_78 rfl (lv_at hl 2 rfl) ?_
          refine va_put (D := g.1) (own := R_MM) (ref := R_MM) (ci := 5) (v := .int (nI nn)) (ty := .int) (C := R_MM) (T := F_MM) (N := 16) hx hb hts in_MM t_MM t_MM_ok n_MM hown hG.1 hP hD hS 0 rfl rfl 12 (by decide) (hts _ wd_395) (fun _ h9 => h9) rfl (by decide +kernel) rfl rfl (Nat.le_of_ble_eq_true rfl) d_MM_work_79 (fun H locs hP hD hS => ?_)
          have hP : va_P g.1 gx_cl (mW g md (va_up J 9 P15) n v nn (mt_ct k 1 nn) (mt_ct k 2 nn) X1) H := hP
          have hD : va_D (gx_in (mW g md J n v kn pr ar X)) (mW g md (va_up J 9 P15) n v nn (mt_ct k 1 nn) (mt_ct k 2 nn) X1) := hD
          exact gc_retv (u := ((P15, nn, mt_ct k 1 nn, mt_ct k 2 nn, X1))) (Wf := fun (u : ((Nat → Int32) × Nat × Nat × Nat × (Nat → Int64))) => mW g md (va_up J 9 u.1) n v u.2.1 u.2.2.1 u.2.2.2.1 u.2.2.2.2) (post := fun (u : ((Nat → Int32) × Nat × Nat × Nat × (Nat → Int64))) => u.2.1 = nn ∧ mt_KN u.1 u.2.2.1 u.2.2.2.1 u.2.2.2.2 k a b nn) hx hb hr hlk (⟨rfl, ⟨rfl, rfl, hnu15⟩, hf hc44⟩) hP hD hS d_MM_work_82
        · ---- 44F
          refine lv_aload_n hx hb d_MM_work_47 rfl (lv_at hl 1 rfl) ?_
          refine lv_iload_n hx hb d_MM_work_48 rfl (lv_at hl 2 rfl) ?_
          refine gc_cwv (va_runV (own := R_MM) (As := [.int (nI nn)]) (rest := []) ⟨hx, hb, hml, hown, hts⟩ (c_MM_collect (l := l) (g := g) (md := md) (J := va_up J 9 P15) (n := n) (v := v) (kn := kn) (pr := mt_ct k 1 nn) (ar := mt_ct k 2 nn) (X := X1) (k := k) (a := a) (b := b) (nn := nn) hT (by omega) hw hN) (cwV 1 hts (gx_goodV wd_504 wd_506 ws_21 wd_7 wd_507) rfl rfl rfl (by decide +kernel) ⟨Nat.le_of_ble_eq_true rfl, Nat.le_of_ble_eq_true rfl⟩) (gc_preVW (gc_recv hP hG (ci := 5) rfl (q0 := 0) rfl) hP hG hD) rfl rfl hl.1 rfl (lv_room (Nat.le_of_ble_eq_true rfl)) d_MM_work_49 ⟨Nat.le_refl _, Nat.le_refl _⟩) hD hS (fun X49 H locs hco49 hP hD hS => ?_)
          have hP : va_P g.1 gx_cl (mW g md (va_up J 9 P15) n v kn (mt_ct k 1 nn) (mt_ct k 2 nn) X49) H := hP
          have hD : va_D (gx_in (mW g md J n v kn pr ar X)) (mW g md (va_up J 9 P15) n v kn (mt_ct k 1 nn) (mt_ct k 2 nn) X49) := hD
          refine lv_aload_n hx hb d_MM_work_52 rfl (lv_at hl 1 rfl) ?_
          refine gc_cwi (va_runV (own := R_MM) (As := []) (rest := []) ⟨hx, hb, hml, hown, hts⟩ (c_MM_makePairs (l := l) (g := g) (md := md) (J := va_up J 9 P15) (n := n) (v := v) (kn := kn) (pr := mt_ct k 1 nn) (ar := mt_ct k 2 nn) (X := X49) (by omega)) (cwV 0 hts (gx_goodV wd_520 wd_522 ws_25 wd_7 wd_523) rfl rfl rfl (by decide +kernel) ⟨Nat.le_of_ble_eq_true rfl, Nat.le_of_ble_eq_true rfl⟩) (gc_preVW (gc_recv hP hG (ci := 5) rfl (q0 := 0) rfl) hP hG hD) rfl rfl hl.1 rfl (lv_room (Nat.le_of_ble_eq_true rfl)) d_MM_work_53 ⟨Nat.le_refl _, Nat.le_refl _⟩) hD hS (fun r53 X53 H locs hr53 hP hD hS => ?_)
          obtain ⟨z53, hr8, hm53⟩ := hr53
          subst hr8
          have hP : va_P g.1 gx_cl (mW g md (va_up J 9 P15) n v kn (mt_ct k 1 nn) (mt_ct k 2 nn) X53) H := hP
          have hD : va_D (gx_in (mW g md J n v kn pr ar X)) (mW g md (va_up J 9 P15) n v kn (mt_ct k 1 nn) (mt_ct k 2 nn) X53) := hD
          refine lv_istore_n (lv' := [(2, .int (mt_b z53)), (0, .ref (md 0)), (1, .int (nI nn))]) hx hb d_MM_work_56 rfl hl (by decide) rfl (fun ls hl => ?_)
          refine lv_aload_n hx hb d_MM_work_57 rfl (lv_at hl 1 rfl) ?_
          refine gc_cwi (va_runV (own := R_MM) (As := []) (rest := []) ⟨hx, hb, hml, hown, hts⟩ (c_MM_makeFunctions (l := l) (g := g) (md := md) (J := va_up J 9 P15) (n := n) (v := v) (kn := kn) (pr := mt_ct k 1 nn) (ar := mt_ct k 2 nn) (X := X53) (by omega) (mt_wk_cs hW hco49 hm53)) (cwV 0 hts (gx_goodV wd_524 wd_526 ws_26 wd_7 wd_527) rfl rfl rfl (by decide +kernel) ⟨Nat.le_of_ble_eq_true rfl, Nat.le_of_ble_eq_true rfl⟩) (gc_preVW (gc_recv hP hG (ci := 5) rfl (q0 := 0) rfl) hP hG hD) rfl rfl hl.1 rfl (lv_room (Nat.le_of_ble_eq_true rfl)) d_MM_work_58 ⟨Nat.le_refl _, Nat.le_refl _⟩) hD hS (fun r58 X58 H locs hr58 hP hD hS => ?_)
          obtain ⟨z58, hr8, hm58⟩ := hr58
          subst hr8
          have hP : va_P g.1 gx_cl (mW g md (va_up J 9 P15) n v kn (mt_ct k 1 nn) (mt_ct k 2 nn) X58) H := hP
          have hD : va_D (gx_in (mW g md J n v kn pr ar X)) (mW g md (va_up J 9 P15) n v kn (mt_ct k 1 nn) (mt_ct k 2 nn) X58) := hD
          refine lv_if_ne (tgt := 68) hx hb d_MM_work_61 (by decide) (mt_nz fun hc61 => ?_) (mt_z fun hc61 => ?_)
          · ---- 44F 61T
            refine lv_iconst (v := nI 1) hx hb d_MM_work_68 (by decide) ?_
            refine lv_goto (tgt := 73) hx hb d_MM_work_69 (by decide) ?_
            refine mt_ri (y := mt_b true) rfl ?_
            refine lv_istore_n (lv' := [(2, .int (mt_b true)), (0, .ref (md 0)), (1, .int (nI nn))]) hx hb d_MM_work_73 rfl hl (by decide) rfl (fun ls hl => ?_)
            have hst := mt_wk_step hw hn13 hW hco49 hm53 hm58
            have hmu : 2 * mt_mu X58 + Bool.toNat true < d := by (have h1 := hst.2.2.1; have h2 := hst.2.2.2 (by rw [hc61]; rfl); rw [hc44] at hd; simp only [Bool.toNat_true, Bool.toNat_false] at hd ⊢; omega)
            refine lv_goto (tgt := 43) hx hb d_MM_work_74 (by decide) ?_
            exact ih43 _ (hmu) true X58 ls _ _ rfl (hst.1) (fun h9 => by cases h9) (lv_sub hl [0, 1, 2] rfl) hP hD hS
          · ---- 44F 61F
            refine lv_iload_n hx hb d_MM_work_64 rfl (lv_at hl 0 rfl) ?_
            refine lv_if_eq (tgt := 72) hx hb d_MM_work_65 (by decide) (mt_z fun hc65 => ?_) (mt_nz fun hc65 => ?_)
            · ---- 44F 61F 65T
              refine lv_iconst (v := nI 0) hx hb d_MM_work_72 (by decide) ?_
              refine mt_ri (y := mt_b false) rfl ?_
              refine lv_istore_n (lv' := [(2, .int (mt_b false)), (0, .ref (md 0)), (1, .int (nI nn))]) hx hb d_MM_work_73 rfl hl (by decide) rfl (fun ls hl => ?_)
              have hst := mt_wk_step hw hn13 hW hco49 hm53 hm58
              have hmu : 2 * mt_mu X58 + Bool.toNat false < d := by (have h1 := hst.2.2.1; rw [hc44] at hd; simp only [Bool.toNat_true, Bool.toNat_false] at hd ⊢; omega)
              refine lv_goto (tgt := 43) hx hb d_MM_work_74 (by decide) ?_
              exact ih43 _ (hmu) false X58 ls _ _ rfl (hst.1) (fun _ => hst.2.1 (by rw [hc61, hc65]; rfl)) (lv_sub hl [0, 1, 2] rfl) hP hD hS
            · ---- 44F 61F 65F
              refine lv_iconst (v := nI 1) hx hb d_MM_work_68 (by decide) ?_
              refine lv_goto (tgt := 73) hx hb d_MM_work_69 (by decide) ?_
              refine mt_ri (y := mt_b true) rfl ?_
              refine lv_istore_n (lv' := [(2, .int (mt_b true)), (0, .ref (md 0)), (1, .int (nI nn))]) hx hb d_MM_work_73 rfl hl (by decide) rfl (fun ls hl => ?_)
              have hst := mt_wk_step hw hn13 hW hco49 hm53 hm58
              have hmu : 2 * mt_mu X58 + Bool.toNat true < d := by (have h1 := hst.2.2.1; have h2 := hst.2.2.2 (by rw [hc61, hc65]; rfl); rw [hc44] at hd; simp only [Bool.toNat_true, Bool.toNat_false] at hd ⊢; omega)
              refine lv_goto (tgt := 43) hx hb d_MM_work_74 (by decide) ?_
              exact ih43 _ (hmu) true X58 ls _ _ rfl (hst.1) (fun h9 => by cases h9) (lv_sub hl [0, 1, 2] rfl) hP hD hS
      exact lp43 _ true X37 ls _ _ rfl (mt_wk_0 hx22 hx29 hx37) (fun h9 => by cases h9) (lv_sub hl [0, 1, 2] rfl) hP hD hS
    · ---- 5F 9F
      have hP : va_P g.1 gx_cl (mW g md (va_up J 9 (J 9)) n v kn pr ar X) s.heap := by rw [va_up_id]; exact hP
      have hD : va_D (gx_in (mW g md J n v kn pr ar X)) (mW g md (va_up J 9 (J 9)) n v kn pr ar X) := by rw [va_up_id]; exact hD
      exact gc_retv (u := ((J 9, kn, pr, ar, X))) (Wf := fun (u : ((Nat → Int32) × Nat × Nat × Nat × (Nat → Int64))) => mW g md (va_up J 9 u.1) n v u.2.1 u.2.2.1 u.2.2.2.1 u.2.2.2.2) (post := fun (u : ((Nat → Int32) × Nat × Nat × Nat × (Nat → Int64))) => u.2.1 = nn ∧ mt_KN u.1 u.2.2.1 u.2.2.2.1 u.2.2.2.2 k a b nn) hx hb hr hlk (⟨hc5, hK hc5 hc9⟩) hP hD hS d_MM_work_12
