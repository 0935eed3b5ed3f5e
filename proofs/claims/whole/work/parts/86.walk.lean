set_option maxHeartbeats 16000000 in
set_option maxRecDepth 100000 in
theorem whole_start {p : Program} {e : Env} {s : State} {m : MethodId} {below : List Frame} {meth : Method} {c : Code} (l : Launch) {b L : Nat} {xs : Nat → Int32} (hL : L ≤ 2560) (C0 : lw_At p s m meth c b L xs) : W p l e room_1 s m #[Value.ref b] below meth c s.heap [] 0 0 (lw_Z below #[Value.ref b] s) (entryFrame m ([Value.ref b] : List Value).toArray 4) := by
  obtain ⟨hx, hb, hr, hml, hown, hts0, hX, hbl, hlk, hgv⟩ := C0
  have hts : ∀ w ∈ gx_tG, w.before #[Value.ref b] s = true := fun w hw => hts0 w (gx_tG_in w hw)
  obtain ⟨g, hG⟩ := lx_start hts0
  obtain ⟨A, hA0⟩ : ∃ A : Nat → Prop, A = fun q => s.heap.size ≤ q := ⟨_, rfl⟩
  have hA : ∀ q : Nat, s.heap.size ≤ q → A q := fun q h => by rw [hA0]; exact h
  have hbA : ¬ A b := by rw [hA0]; exact Nat.not_le.mpr hbl
  have hP : va_P g.1 gx_cl ([] : va_W) s.heap := fun k q h => by simp at h
  have hD : va_D A ([] : va_W) := ⟨fun i j p q h => by simp at h, fun k q h => by simp at h⟩
  have hS : va_S A s.heap s.heap [] := va_S.rf
  have hl := lv_entry [Value.ref b] (n := 4) (Nat.le_of_ble_eq_true rfl)
  rw [lg_entry_eq]
  generalize (lg_sl [Value.ref b] ++ List.replicate (4 - (lg_sl [Value.ref b]).length) Slot.unset).toArray = ls at hl ⊢
  have hl : lv_has ls 4 [(0, .ref b)] := hl
  refine va_new (ci := 4) (fs := [.null, .null]) (C := R_MT) (T := F_MT) (N := 2) hx hb hts in_MT t_MT t_MT_ok hown (hts _ wd_10) (hts _ wd_11) (hts _ wd_1) hG.1 hP hD hS hA rfl (fun j hj => by rcases (show j = 0 ∨ j = 1 by omega) with rfl | rfl <;> rfl) (Nat.le_of_ble_eq_true rfl) (by decide) d_LW_law_0 (fun q0 H hP hD hS => ?_)
  have hP : va_P g.1 gx_cl [gJ q0 4 [.null, .null]] H := hP
  have hD : va_D A [gJ q0 4 [.null, .null]] := hD
  refine W.widen (k := 1) (n := 2) (by omega) (by omega) ?_
  refine lv_dup hx hb d_LW_law_3 rfl ?_
  refine gc_cnew (ws := []) (c0 := gJ q0 4 [.null, .null]) (va_runI (own := R_law) (b := q0) (As := []) (rest := [.ref q0]) ⟨hx, hb, hml, hown, hts⟩ (c_MT_init (l := l) (g := g) (h0 := q0) (sz := H.size)) (cwI 0 hts (gx_good wd_14) rfl rfl rfl (hts _ wd_1) (hts _ wd_12) (hts _ wd_13) rfl (by decide +kernel) ⟨Nat.le_of_ble_eq_true rfl, Nat.le_of_ble_eq_true rfl⟩) (gc_preN (ws := []) hP hG) rfl rfl hl.1 rfl (lv_room (Nat.le_of_ble_eq_true rfl)) d_LW_law_4 ⟨Nat.le_of_ble_eq_true rfl, Nat.le_of_ble_eq_true rfl⟩) hP hD hS hA (fun u4 H locs hu4 hP hD hS => ?_)
  obtain ⟨ad, so, sw, f0⟩ := u4
  obtain ⟨had, hel⟩ := hu4
  dsimp only at had hel
  have hPn := hP
  have hDn := hD
  subst had
  have hP := hPn
  have hD := hDn
  have hP : va_P g.1 gx_cl (cW g ad so sw (fun _ _ => 0) 0 0 (va_up (fun _ => 0) 0 1) (va_up (fun _ _ => 0) 0 f0)) H := hP
  have hD : va_D A (cW g ad so sw (fun _ _ => 0) 0 0 (va_up (fun _ => 0) 0 1) (va_up (fun _ _ => 0) 0 f0)) := hD
  refine W.widen (k := 66) (n := 3462) (by omega) (by omega) ?_
  refine lv_astore_n (lv' := [(1, .ref (ad 15)), (0, .ref b)]) hx hb d_LW_law_7 rfl hl (by decide) rfl (fun ls hl => ?_)
  refine va_new (ci := 5) (fs := [.int (nI 0), .null, .null, .null, .null, .null, .int (nI 0), .null, .null, .null, .null, .null, .int (nI 0), .int (nI 0), .int (nI 0), .null]) (C := R_MM) (T := F_MM) (N := 16) hx hb hts in_MM t_MM t_MM_ok hown (hts _ wd_377) (hts _ wd_378) (hts _ wd_7) hG.1 hP hD hS hA rfl (fun j hj => by rcases (show j = 0 ∨ j = 1 ∨ j = 2 ∨ j = 3 ∨ j = 4 ∨ j = 5 ∨ j = 6 ∨ j = 7 ∨ j = 8 ∨ j = 9 ∨ j = 10 ∨ j = 11 ∨ j = 12 ∨ j = 13 ∨ j = 14 ∨ j = 15 by omega) with rfl | rfl | rfl | rfl | rfl | rfl | rfl | rfl | rfl | rfl | rfl | rfl | rfl | rfl | rfl | rfl <;> rfl) (Nat.le_of_ble_eq_true rfl) (by decide) d_LW_law_8 (fun q8 H hP hD hS => ?_)
  have hP : va_P g.1 gx_cl (cW g ad so sw (fun _ _ => 0) 0 0 (va_up (fun _ => 0) 0 1) (va_up (fun _ _ => 0) 0 f0) ++ [gJ q8 5 [.int (nI 0), .null, .null, .null, .null, .null, .int (nI 0), .null, .null, .null, .null, .null, .int (nI 0), .int (nI 0), .int (nI 0), .null]]) H := hP
  have hD : va_D A (cW g ad so sw (fun _ _ => 0) 0 0 (va_up (fun _ => 0) 0 1) (va_up (fun _ _ => 0) 0 f0) ++ [gJ q8 5 [.int (nI 0), .null, .null, .null, .null, .null, .int (nI 0), .null, .null, .null, .null, .null, .int (nI 0), .int (nI 0), .int (nI 0), .null]]) := hD
  refine W.widen (k := 67) (n := 3478) (by omega) (by omega) ?_
  refine lv_dup hx hb d_LW_law_11 rfl ?_
  refine gc_cnew (ws := (cW g ad so sw (fun _ _ => 0) 0 0 (va_up (fun _ => 0) 0 1) (va_up (fun _ _ => 0) 0 f0))) (c0 := gJ q8 5 [.int (nI 0), .null, .null, .null, .null, .null, .int (nI 0), .null, .null, .null, .null, .null, .int (nI 0), .int (nI 0), .int (nI 0), .null]) (va_runI (own := R_law) (b := q8) (As := []) (rest := [.ref q8]) ⟨hx, hb, hml, hown, hts⟩ (c_MM_init (l := l) (g := g) (h0 := q8) (sz := H.size)) (cwI 0 hts (gx_good wd_381) rfl rfl rfl (hts _ wd_7) (hts _ wd_379) (hts _ wd_380) rfl (by decide +kernel) ⟨Nat.le_of_ble_eq_true rfl, Nat.le_of_ble_eq_true rfl⟩) (gc_preN (ws := (cW g ad so sw (fun _ _ => 0) 0 0 (va_up (fun _ => 0) 0 1) (va_up (fun _ _ => 0) 0 f0))) hP hG) rfl rfl hl.1 rfl (lv_room (Nat.le_of_ble_eq_true rfl)) d_LW_law_12 ⟨Nat.le_of_ble_eq_true rfl, Nat.le_of_ble_eq_true rfl⟩) hP hD hS hA (fun u12 H locs hu12 hP hD hS => ?_)
  obtain ⟨md, hmd⟩ : ∃ z, z = u12 := ⟨_, rfl⟩
  subst hmd
  have hmd : md 0 = q8 := hu12
  have hPn := hP
  have hDn := hD
  subst hmd
  have hP := hPn
  have hD := hDn
  have hP : va_P g.1 gx_cl (cW g ad so sw (fun _ _ => 0) 0 0 (va_up (fun _ => 0) 0 1) (va_up (fun _ _ => 0) 0 f0) ++ mW g md (fun _ _ => 0) 0 0 0 0 0 (fun _ => 0)) H := hP
  have hD : va_D A (cW g ad so sw (fun _ _ => 0) 0 0 (va_up (fun _ => 0) 0 1) (va_up (fun _ _ => 0) 0 f0) ++ mW g md (fun _ _ => 0) 0 0 0 0 0 (fun _ => 0)) := hD
  refine W.widen (k := 78) (n := 7092) (by omega) (by omega) ?_
  refine lv_astore_n (lv' := [(2, .ref (md 0)), (1, .ref (ad 15)), (0, .ref b)]) hx hb d_LW_law_15 rfl hl (by decide) rfl (fun ls hl => ?_)
  refine lv_iconst (v := nI 0) hx hb d_LW_law_16 (by decide) ?_
  refine lv_istore_n (lv' := [(3, .int (nI 0)), (2, .ref (md 0)), (1, .ref (ad 15)), (0, .ref b)]) hx hb d_LW_law_17 rfl hl (by decide) rfl (fun ls hl => ?_)
  have lp : ∀ (d : Nat) (i : Nat) (ls : Array Slot) (H : Heap) (locs : List Loc), d = L - i → i ≤ L → lv_has ls 4 [(3, .int (nI i)), (2, .ref (md 0)), (1, .ref (ad 15)), (0, .ref b)] → (∃ (u : gST) (w : gMS) (T : gTS) (V : gVS), mt_CR u T V ∧ mt_MR w T V ∧ va_P g.1 gx_cl (cW g ad so sw u.1 u.2.1 u.2.2.1 u.2.2.2.1 u.2.2.2.2 ++ mW g md w.1 w.2.1 w.2.2.1 w.2.2.2.1 w.2.2.2.2.1 w.2.2.2.2.2.1 w.2.2.2.2.2.2) H ∧ va_D A (cW g ad so sw u.1 u.2.1 u.2.2.1 u.2.2.2.1 u.2.2.2.2 ++ mW g md w.1 w.2.1 w.2.2.1 w.2.2.2.1 w.2.2.2.2.1 w.2.2.2.2.2.1 w.2.2.2.2.2.2) ∧ va_S A s.heap H locs) → W p l e room_1 s m #[Value.ref b] below meth c H locs 78 7092 (lw_Z below #[Value.ref b] s) (F0 m 18 ls []) := by
    intro d
    induction d using Nat.strongRecOn with
    | ind d ih =>
    intro i ls H locs hd hi hl hI
    subst hd
    obtain ⟨u, w, T, V, hC, hM, hP, hD, hS⟩ := hI
    obtain ⟨I, n, v, us, ct⟩ := u
    obtain ⟨J, n2, v2, kn, pr, ar, X⟩ := w
    obtain ⟨n1, tk, ta, tb, dp, fc⟩ := T
    obtain ⟨v1, vk, va, vb, vl⟩ := V
    have e1 : n = n1 := hC.1
    have e2 : v = v1 := hC.2.1
    subst e1
    subst e2
    have e3 : n = n2 := hM.1.symm
    have e4 : v = v2 := hM.2.1.symm
    subst e3
    subst e4
    have hP : va_P g.1 gx_cl (cW g ad so sw I n v us ct ++ mW g md J n v kn pr ar X) H := hP
    have hD : va_D A (cW g ad so sw I n v us ct ++ mW g md J n v kn pr ar X) := hD
    have hn12 : n ≤ 12 := hC.2.2.1
    have hv20 : v ≤ 20 := hM.2.2.2.2.2.2.2.1
    refine lv_iload_n hx hb d_LW_law_18 rfl (lv_at hl 0 rfl) ?_
    refine lv_aload_n hx hb d_LW_law_19 rfl (lv_at hl 3 rfl) ?_
    refine va_slen hx hb hX hbl hbA hS d_LW_law_20 ?_
    refine mt_ri (y := nI L) rfl ?_
    refine lv_iconst (v := nI 5) hx hb d_LW_law_21 (by decide) ?_
    refine lv_isub hx hb d_LW_law_22 ?_
    refine lv_icmp_gt (tgt := 677) hx hb d_LW_law_23 (by decide) (fun _ => ?_) (fun hc23 => ?_)
    · ---- 677
      refine lv_iconst (v := 1) hx hb d_LW_law_677 (by decide) ?_
      refine va_forget (fun q hq => by have h9 := hS.2.2 q hq; rw [hA0] at h9; exact h9) ?_
      refine W.widen (k := 600000) (n := 7302250) (by decide) (by decide) ?_
      exact lw_ret hx hb hr hlk d_LW_law_678
    · ---- 26
      have hc5 : i + 5 ≤ L := lx_len hi hL hc23
      have nx : ∀ (u : gST) (w : gMS) (T : gTS) (V : gVS) (H : Heap) (locs : List Loc), mt_CR u T V → mt_MR w T V → va_P g.1 gx_cl (cW g ad so sw u.1 u.2.1 u.2.2.1 u.2.2.2.1 u.2.2.2.2 ++ mW g md w.1 w.2.1 w.2.2.1 w.2.2.2.1 w.2.2.2.2.1 w.2.2.2.2.2.1 w.2.2.2.2.2.2) H → va_D A (cW g ad so sw u.1 u.2.1 u.2.2.1 u.2.2.2.1 u.2.2.2.2 ++ mW g md w.1 w.2.1 w.2.2.1 w.2.2.2.1 w.2.2.2.2.1 w.2.2.2.2.2.1 w.2.2.2.2.2.2) → va_S A s.heap H locs → W p l e room_1 s m #[Value.ref b] below meth c H locs 78 7092 (lw_Z below #[Value.ref b] s) (F0 m 671 ls []) := by
        intro u w T V H locs hC hM hP hD hS
        refine lv_iinc (k := 0) (v := nI (i + 5)) (lv' := [(3, .int (nI (i + 5))), (2, .ref (md 0)), (1, .ref (ad 15)), (0, .ref b)]) hx hb d_LW_law_671 hl rfl (nI_add _ _) (by decide) rfl (fun ls hl => ?_)
        refine lv_goto (tgt := 18) hx hb d_LW_law_674 (by decide) ?_
        exact ih (L - (i + 5)) (by omega) (i + 5) ls H locs rfl hc5 hl ⟨u, w, T, V, hC, hM, hP, hD, hS⟩
      refine lv_aload_n hx hb d_LW_law_26 rfl (lv_at hl 3 rfl) ?_
      refine lv_iload_n hx hb d_LW_law_27 rfl (lv_at hl 0 rfl) ?_
      refine va_sld hx hb hX hbl hbA hS (vp_in_nI (by omega) (by omega)) d_LW_law_28 ?_
      refine mt_ri (y := xs i) (by rw [nI_clamp (by omega)]) ?_
      refine lv_bipush (v := nI 31) hx hb d_LW_law_29 (by decide) ?_
      refine lv_iand hx hb d_LW_law_31 ?_
      obtain ⟨jc, hjc, hej⟩ := lx_and31 (xs i)
      refine mt_ri (y := nI jc) hej ?_
      clear hej
      rcases (show jc = 0 ∨ jc = 1 ∨ jc = 2 ∨ jc = 3 ∨ jc = 4 ∨ jc = 5 ∨ jc = 6 ∨ jc = 7 ∨ jc = 8 ∨ jc = 9 ∨ jc = 10 ∨ jc = 11 ∨ jc = 12 ∨ jc = 13 ∨ jc = 14 ∨ jc = 15 ∨ jc = 16 ∨ jc = 17 ∨ jc = 18 ∨ jc = 19 ∨ jc = 20 ∨ jc = 21 ∨ jc = 22 ∨ jc = 23 ∨ jc = 24 ∨ jc = 25 ∨ jc = 26 ∨ jc = 27 ∨ jc = 28 ∨ jc = 29 ∨ jc = 30 ∨ jc = 31 by omega) with rfl | rfl | rfl | rfl | rfl | rfl | rfl | rfl | rfl | rfl | rfl | rfl | rfl | rfl | rfl | rfl | rfl | rfl | rfl | rfl | rfl | rfl | rfl | rfl | rfl | rfl | rfl | rfl | rfl | rfl | rfl | rfl
      · ---- case 0
        refine lv_tableIn (off := 92) (tgt := 124) hx hb d_LW_law_32 (by decide) (by decide) (by decide) (by decide) ?_
        refine lv_aload_n hx hb d_LW_law_124 rfl (lv_at hl 2 rfl) ?_
        refine lv_aload_n hx hb d_LW_law_125 rfl (lv_at hl 3 rfl) ?_
        refine lv_iload_n hx hb d_LW_law_126 rfl (lv_at hl 0 rfl) ?_
        refine lv_iconst (v := nI 1) hx hb d_LW_law_127 (by decide) ?_
        refine lv_iadd hx hb d_LW_law_128 ?_
        refine mt_ri (y := nI (i + 1)) (nI_add _ _) ?_
        refine va_sld hx hb hX hbl hbA hS (vp_in_nI (by omega) (by omega)) d_LW_law_129 ?_
        refine mt_ri (y := xs (i + 1)) (by rw [nI_clamp (by omega)]) ?_
        refine lx_cwL (w1 := cW g ad so sw I n v us ct) (w2 := mW g md J n v kn pr ar X) (va_runV (own := R_law) (As := [.int (xs (i + 1))]) (rest := []) ⟨hx, hb, hml, hown, hts⟩ (c_MT_constants (l := l) (g := g) (ad := ad) (so := so) (sw := sw) (I := I) (n := n) (v := v) (us := us) (ct := ct) (x := xs (i + 1)) hC) (cwV 1 hts (gx_goodV wd_154 wd_155 wd_156 wd_1 wd_157) rfl rfl rfl (by decide +kernel) ⟨Nat.le_of_ble_eq_true rfl, Nat.le_of_ble_eq_true rfl⟩) (gc_preVW (gc_recv (lx_PL hP) hG (ci := 4) rfl (q0 := 15) rfl) (lx_PL hP) hG (lx_DL hD)) rfl rfl hl.1 rfl (lv_room (Nat.le_of_ble_eq_true rfl)) d_LW_law_130 ⟨Nat.le_of_ble_eq_true rfl, Nat.le_of_ble_eq_true rfl⟩) hP hD hS (fun r1 u1 H locs hr1 hP hD hS => ?_)
        refine lv_aload_n hx hb d_LW_law_133 rfl (lv_at hl 1 rfl) ?_
        refine lv_aload_n hx hb d_LW_law_134 rfl (lv_at hl 3 rfl) ?_
        refine lv_iload_n hx hb d_LW_law_135 rfl (lv_at hl 0 rfl) ?_
        refine lv_iconst (v := nI 1) hx hb d_LW_law_136 (by decide) ?_
        refine lv_iadd hx hb d_LW_law_137 ?_
        refine mt_ri (y := nI (i + 1)) (nI_add _ _) ?_
        refine va_sld hx hb hX hbl hbA hS (vp_in_nI (by omega) (by omega)) d_LW_law_138 ?_
        refine mt_ri (y := xs (i + 1)) (by rw [nI_clamp (by omega)]) ?_
        have hP : va_P g.1 gx_cl (cW g ad so sw u1.1 u1.2.1 u1.2.2.1 u1.2.2.2.1 u1.2.2.2.2 ++ mW g md J n v kn pr ar X) H := hP
        have hD : va_D A (cW g ad so sw u1.1 u1.2.1 u1.2.2.1 u1.2.2.2.1 u1.2.2.2.2 ++ mW g md J n v kn pr ar X) := hD
        refine lx_cwR (w1 := cW g ad so sw u1.1 u1.2.1 u1.2.2.1 u1.2.2.2.1 u1.2.2.2.2) (w2 := mW g md J n v kn pr ar X) (va_runV (own := R_law) (As := [.int (xs (i + 1))]) (rest := [.int r1]) ⟨hx, hb, hml, hown, hts⟩ (c_MM_constants (l := l) (g := g) (md := md) (J := J) (n := n) (v := v) (kn := kn) (pr := pr) (ar := ar) (X := X) (x := xs (i + 1)) hM) (cwV 1 hts (gx_goodV wd_432 wd_433 wd_434 wd_7 wd_435) rfl rfl rfl (by decide +kernel) ⟨Nat.le_of_ble_eq_true rfl, Nat.le_of_ble_eq_true rfl⟩) (gc_preVW (gc_recv (lx_PR hP) hG (ci := 5) rfl (q0 := 0) rfl) (lx_PR hP) hG (lx_DR hD)) rfl rfl hl.1 rfl (lv_room (Nat.le_of_ble_eq_true rfl)) d_LW_law_139 ⟨Nat.le_of_ble_eq_true rfl, Nat.le_of_ble_eq_true rfl⟩) hP hD hS (fun r2 w2 H locs hr2 hP hD hS => ?_)
        obtain ⟨T1, hs1, hC1⟩ := hr1
        obtain ⟨T2, hs2, hM1⟩ := hr2
        obtain ⟨hq1, hq2⟩ := sp_cst_det hs1 hs2
        subst hq2
        refine lv_icmp_eq (tgt := 671) hx hb d_LW_law_142 (by decide) (fun _ => ?_) (fun h9 => absurd hq1 h9)
        exact nx u1 w2 T1 (v, vk, va, vb, vl) H locs hC1 hM1 hP hD hS
      · ---- case 1
        refine lv_tableIn (off := 115) (tgt := 147) hx hb d_LW_law_32 (by decide) (by decide) (by decide) (by decide) ?_
        refine lv_aload_n hx hb d_LW_law_147 rfl (lv_at hl 2 rfl) ?_
        refine lv_aload_n hx hb d_LW_law_148 rfl (lv_at hl 3 rfl) ?_
        refine lv_iload_n hx hb d_LW_law_149 rfl (lv_at hl 0 rfl) ?_
        refine lv_iconst (v := nI 1) hx hb d_LW_law_150 (by decide) ?_
        refine lv_iadd hx hb d_LW_law_151 ?_
        refine mt_ri (y := nI (i + 1)) (nI_add _ _) ?_
        refine va_sld hx hb hX hbl hbA hS (vp_in_nI (by omega) (by omega)) d_LW_law_152 ?_
        refine mt_ri (y := xs (i + 1)) (by rw [nI_clamp (by omega)]) ?_
        refine lv_aload_n hx hb d_LW_law_153 rfl (lv_at hl 3 rfl) ?_
        refine lv_iload_n hx hb d_LW_law_154 rfl (lv_at hl 0 rfl) ?_
        refine lv_iconst (v := nI 2) hx hb d_LW_law_155 (by decide) ?_
        refine lv_iadd hx hb d_LW_law_156 ?_
        refine mt_ri (y := nI (i + 2)) (nI_add _ _) ?_
        refine va_sld hx hb hX hbl hbA hS (vp_in_nI (by omega) (by omega)) d_LW_law_157 ?_
        refine mt_ri (y := xs (i + 2)) (by rw [nI_clamp (by omega)]) ?_
        refine lx_cwL (w1 := cW g ad so sw I n v us ct) (w2 := mW g md J n v kn pr ar X) (va_runV (own := R_law) (As := [.int (xs (i + 1)), .int (xs (i + 2))]) (rest := []) ⟨hx, hb, hml, hown, hts⟩ (c_MT_product (l := l) (g := g) (ad := ad) (so := so) (sw := sw) (I := I) (n := n) (v := v) (us := us) (ct := ct) (x := xs (i + 1)) (y := xs (i + 2)) hC) (cwV 2 hts (gx_goodV wd_244 wd_245 wd_246 wd_1 wd_247) rfl rfl rfl (by decide +kernel) ⟨Nat.le_of_ble_eq_true rfl, Nat.le_of_ble_eq_true rfl⟩) (gc_preVW (gc_recv (lx_PL hP) hG (ci := 4) rfl (q0 := 15) rfl) (lx_PL hP) hG (lx_DL hD)) rfl rfl hl.1 rfl (lv_room (Nat.le_of_ble_eq_true rfl)) d_LW_law_158 ⟨Nat.le_of_ble_eq_true rfl, Nat.le_of_ble_eq_true rfl⟩) hP hD hS (fun r1 u1 H locs hr1 hP hD hS => ?_)
        refine lv_aload_n hx hb d_LW_law_161 rfl (lv_at hl 1 rfl) ?_
        refine lv_aload_n hx hb d_LW_law_162 rfl (lv_at hl 3 rfl) ?_
        refine lv_iload_n hx hb d_LW_law_163 rfl (lv_at hl 0 rfl) ?_
        refine lv_iconst (v := nI 1) hx hb d_LW_law_164 (by decide) ?_
        refine lv_iadd hx hb d_LW_law_165 ?_
        refine mt_ri (y := nI (i + 1)) (nI_add _ _) ?_
        refine va_sld hx hb hX hbl hbA hS (vp_in_nI (by omega) (by omega)) d_LW_law_166 ?_
        refine mt_ri (y := xs (i + 1)) (by rw [nI_clamp (by omega)]) ?_
        refine lv_aload_n hx hb d_LW_law_167 rfl (lv_at hl 3 rfl) ?_
        refine lv_iload_n hx hb d_LW_law_168 rfl (lv_at hl 0 rfl) ?_
        refine lv_iconst (v := nI 2) hx hb d_LW_law_169 (by decide) ?_
        refine lv_iadd hx hb d_LW_law_170 ?_
        refine mt_ri (y := nI (i + 2)) (nI_add _ _) ?_
        refine va_sld hx hb hX hbl hbA hS (vp_in_nI (by omega) (by omega)) d_LW_law_171 ?_
        refine mt_ri (y := xs (i + 2)) (by rw [nI_clamp (by omega)]) ?_
        have hP : va_P g.1 gx_cl (cW g ad so sw u1.1 u1.2.1 u1.2.2.1 u1.2.2.2.1 u1.2.2.2.2 ++ mW g md J n v kn pr ar X) H := hP
        have hD : va_D A (cW g ad so sw u1.1 u1.2.1 u1.2.2.1 u1.2.2.2.1 u1.2.2.2.2 ++ mW g md J n v kn pr ar X) := hD
        refine lx_cwR (w1 := cW g ad so sw u1.1 u1.2.1 u1.2.2.1 u1.2.2.2.1 u1.2.2.2.2) (w2 := mW g md J n v kn pr ar X) (va_runV (own := R_law) (As := [.int (xs (i + 1)), .int (xs (i + 2))]) (rest := [.int r1]) ⟨hx, hb, hml, hown, hts⟩ (c_MM_product (l := l) (g := g) (md := md) (J := J) (n := n) (v := v) (kn := kn) (pr := pr) (ar := ar) (X := X) (x := xs (i + 1)) (y := xs (i + 2)) hM) (cwV 2 hts (gx_goodV wd_440 wd_441 wd_442 wd_7 wd_443) rfl rfl rfl (by decide +kernel) ⟨Nat.le_of_ble_eq_true rfl, Nat.le_of_ble_eq_true rfl⟩) (gc_preVW (gc_recv (lx_PR hP) hG (ci := 5) rfl (q0 := 0) rfl) (lx_PR hP) hG (lx_DR hD)) rfl rfl hl.1 rfl (lv_room (Nat.le_of_ble_eq_true rfl)) d_LW_law_172 ⟨Nat.le_of_ble_eq_true rfl, Nat.le_of_ble_eq_true rfl⟩) hP hD hS (fun r2 w2 H locs hr2 hP hD hS => ?_)
        obtain ⟨T1, hs1, hC1⟩ := hr1
        obtain ⟨T2, hs2, hM1⟩ := hr2
        obtain ⟨hq1, hq2⟩ := sp_cmb_det hs1 hs2
        subst hq2
        refine lv_icmp_eq (tgt := 671) hx hb d_LW_law_175 (by decide) (fun _ => ?_) (fun h9 => absurd hq1 h9)
        exact nx u1 w2 T1 (v, vk, va, vb, vl) H locs hC1 hM1 hP hD hS
      · ---- case 2
        refine lv_tableIn (off := 148) (tgt := 180) hx hb d_LW_law_32 (by decide) (by decide) (by decide) (by decide) ?_
        refine lv_aload_n hx hb d_LW_law_180 rfl (lv_at hl 2 rfl) ?_
        refine lv_aload_n hx hb d_LW_law_181 rfl (lv_at hl 3 rfl) ?_
        refine lv_iload_n hx hb d_LW_law_182 rfl (lv_at hl 0 rfl) ?_
        refine lv_iconst (v := nI 1) hx hb d_LW_law_183 (by decide) ?_
        refine lv_iadd hx hb d_LW_law_184 ?_
        refine mt_ri (y := nI (i + 1)) (nI_add _ _) ?_
        refine va_sld hx hb hX hbl hbA hS (vp_in_nI (by omega) (by omega)) d_LW_law_185 ?_
        refine mt_ri (y := xs (i + 1)) (by rw [nI_clamp (by omega)]) ?_
        refine lv_aload_n hx hb d_LW_law_186 rfl (lv_at hl 3 rfl) ?_
        refine lv_iload_n hx hb d_LW_law_187 rfl (lv_at hl 0 rfl) ?_
        refine lv_iconst (v := nI 2) hx hb d_LW_law_188 (by decide) ?_
        refine lv_iadd hx hb d_LW_law_189 ?_
        refine mt_ri (y := nI (i + 2)) (nI_add _ _) ?_
        refine va_sld hx hb hX hbl hbA hS (vp_in_nI (by omega) (by omega)) d_LW_law_190 ?_
        refine mt_ri (y := xs (i + 2)) (by rw [nI_clamp (by omega)]) ?_
        refine lx_cwL (w1 := cW g ad so sw I n v us ct) (w2 := mW g md J n v kn pr ar X) (va_runV (own := R_law) (As := [.int (xs (i + 1)), .int (xs (i + 2))]) (rest := []) ⟨hx, hb, hml, hown, hts⟩ (c_MT_arrow (l := l) (g := g) (ad := ad) (so := so) (sw := sw) (I := I) (n := n) (v := v) (us := us) (ct := ct) (x := xs (i + 1)) (y := xs (i + 2)) hC) (cwV 2 hts (gx_goodV wd_257 wd_258 wd_259 wd_1 wd_260) rfl rfl rfl (by decide +kernel) ⟨Nat.le_of_ble_eq_true rfl, Nat.le_of_ble_eq_true rfl⟩) (gc_preVW (gc_recv (lx_PL hP) hG (ci := 4) rfl (q0 := 15) rfl) (lx_PL hP) hG (lx_DL hD)) rfl rfl hl.1 rfl (lv_room (Nat.le_of_ble_eq_true rfl)) d_LW_law_191 ⟨Nat.le_of_ble_eq_true rfl, Nat.le_of_ble_eq_true rfl⟩) hP hD hS (fun r1 u1 H locs hr1 hP hD hS => ?_)
        refine lv_aload_n hx hb d_LW_law_194 rfl (lv_at hl 1 rfl) ?_
        refine lv_aload_n hx hb d_LW_law_195 rfl (lv_at hl 3 rfl) ?_
        refine lv_iload_n hx hb d_LW_law_196 rfl (lv_at hl 0 rfl) ?_
        refine lv_iconst (v := nI 1) hx hb d_LW_law_197 (by decide) ?_
        refine lv_iadd hx hb d_LW_law_198 ?_
        refine mt_ri (y := nI (i + 1)) (nI_add _ _) ?_
        refine va_sld hx hb hX hbl hbA hS (vp_in_nI (by omega) (by omega)) d_LW_law_199 ?_
        refine mt_ri (y := xs (i + 1)) (by rw [nI_clamp (by omega)]) ?_
        refine lv_aload_n hx hb d_LW_law_200 rfl (lv_at hl 3 rfl) ?_
        refine lv_iload_n hx hb d_LW_law_201 rfl (lv_at hl 0 rfl) ?_
        refine lv_iconst (v := nI 2) hx hb d_LW_law_202 (by decide) ?_
        refine lv_iadd hx hb d_LW_law_203 ?_
        refine mt_ri (y := nI (i + 2)) (nI_add _ _) ?_
        refine va_sld hx hb hX hbl hbA hS (vp_in_nI (by omega) (by omega)) d_LW_law_204 ?_
        refine mt_ri (y := xs (i + 2)) (by rw [nI_clamp (by omega)]) ?_
        have hP : va_P g.1 gx_cl (cW g ad so sw u1.1 u1.2.1 u1.2.2.1 u1.2.2.2.1 u1.2.2.2.2 ++ mW g md J n v kn pr ar X) H := hP
        have hD : va_D A (cW g ad so sw u1.1 u1.2.1 u1.2.2.1 u1.2.2.2.1 u1.2.2.2.2 ++ mW g md J n v kn pr ar X) := hD
        refine lx_cwR (w1 := cW g ad so sw u1.1 u1.2.1 u1.2.2.1 u1.2.2.2.1 u1.2.2.2.2) (w2 := mW g md J n v kn pr ar X) (va_runV (own := R_law) (As := [.int (xs (i + 1)), .int (xs (i + 2))]) (rest := [.int r1]) ⟨hx, hb, hml, hown, hts⟩ (c_MM_arrow (l := l) (g := g) (md := md) (J := J) (n := n) (v := v) (kn := kn) (pr := pr) (ar := ar) (X := X) (x := xs (i + 1)) (y := xs (i + 2)) hM) (cwV 2 hts (gx_goodV wd_456 wd_457 wd_458 wd_7 wd_459) rfl rfl rfl (by decide +kernel) ⟨Nat.le_of_ble_eq_true rfl, Nat.le_of_ble_eq_true rfl⟩) (gc_preVW (gc_recv (lx_PR hP) hG (ci := 5) rfl (q0 := 0) rfl) (lx_PR hP) hG (lx_DR hD)) rfl rfl hl.1 rfl (lv_room (Nat.le_of_ble_eq_true rfl)) d_LW_law_205 ⟨Nat.le_of_ble_eq_true rfl, Nat.le_of_ble_eq_true rfl⟩) hP hD hS (fun r2 w2 H locs hr2 hP hD hS => ?_)
        obtain ⟨T1, hs1, hC1⟩ := hr1
        obtain ⟨T2, hs2, hM1⟩ := hr2
        obtain ⟨hq1, hq2⟩ := sp_cmb_det hs1 hs2
        subst hq2
        refine lv_icmp_eq (tgt := 671) hx hb d_LW_law_208 (by decide) (fun _ => ?_) (fun h9 => absurd hq1 h9)
        exact nx u1 w2 T1 (v, vk, va, vb, vl) H locs hC1 hM1 hP hD hS
      · ---- case 3
        refine lv_tableIn (off := 181) (tgt := 213) hx hb d_LW_law_32 (by decide) (by decide) (by decide) (by decide) ?_
        refine lv_aload_n hx hb d_LW_law_213 rfl (lv_at hl 2 rfl) ?_
        refine lv_aload_n hx hb d_LW_law_214 rfl (lv_at hl 3 rfl) ?_
        refine lv_iload_n hx hb d_LW_law_215 rfl (lv_at hl 0 rfl) ?_
        refine lv_iconst (v := nI 1) hx hb d_LW_law_216 (by decide) ?_
        refine lv_iadd hx hb d_LW_law_217 ?_
        refine mt_ri (y := nI (i + 1)) (nI_add _ _) ?_
        refine va_sld hx hb hX hbl hbA hS (vp_in_nI (by omega) (by omega)) d_LW_law_218 ?_
        refine mt_ri (y := xs (i + 1)) (by rw [nI_clamp (by omega)]) ?_
        refine lv_aload_n hx hb d_LW_law_219 rfl (lv_at hl 3 rfl) ?_
        refine lv_iload_n hx hb d_LW_law_220 rfl (lv_at hl 0 rfl) ?_
        refine lv_iconst (v := nI 2) hx hb d_LW_law_221 (by decide) ?_
        refine lv_iadd hx hb d_LW_law_222 ?_
        refine mt_ri (y := nI (i + 2)) (nI_add _ _) ?_
        refine va_sld hx hb hX hbl hbA hS (vp_in_nI (by omega) (by omega)) d_LW_law_223 ?_
        refine mt_ri (y := xs (i + 2)) (by rw [nI_clamp (by omega)]) ?_
        refine lx_cwL (w1 := cW g ad so sw I n v us ct) (w2 := mW g md J n v kn pr ar X) (va_runV (own := R_law) (As := [.int (xs (i + 1)), .int (xs (i + 2))]) (rest := []) ⟨hx, hb, hml, hown, hts⟩ (c_MT_union (l := l) (g := g) (ad := ad) (so := so) (sw := sw) (I := I) (n := n) (v := v) (us := us) (ct := ct) (x := xs (i + 1)) (y := xs (i + 2)) hC) (cwV 2 hts (gx_goodV wd_261 wd_262 wd_263 wd_1 wd_264) rfl rfl rfl (by decide +kernel) ⟨Nat.le_of_ble_eq_true rfl, Nat.le_of_ble_eq_true rfl⟩) (gc_preVW (gc_recv (lx_PL hP) hG (ci := 4) rfl (q0 := 15) rfl) (lx_PL hP) hG (lx_DL hD)) rfl rfl hl.1 rfl (lv_room (Nat.le_of_ble_eq_true rfl)) d_LW_law_224 ⟨Nat.le_of_ble_eq_true rfl, Nat.le_of_ble_eq_true rfl⟩) hP hD hS (fun r1 u1 H locs hr1 hP hD hS => ?_)
        refine lv_aload_n hx hb d_LW_law_227 rfl (lv_at hl 1 rfl) ?_
        refine lv_aload_n hx hb d_LW_law_228 rfl (lv_at hl 3 rfl) ?_
        refine lv_iload_n hx hb d_LW_law_229 rfl (lv_at hl 0 rfl) ?_
        refine lv_iconst (v := nI 1) hx hb d_LW_law_230 (by decide) ?_
        refine lv_iadd hx hb d_LW_law_231 ?_
        refine mt_ri (y := nI (i + 1)) (nI_add _ _) ?_
        refine va_sld hx hb hX hbl hbA hS (vp_in_nI (by omega) (by omega)) d_LW_law_232 ?_
        refine mt_ri (y := xs (i + 1)) (by rw [nI_clamp (by omega)]) ?_
        refine lv_aload_n hx hb d_LW_law_233 rfl (lv_at hl 3 rfl) ?_
        refine lv_iload_n hx hb d_LW_law_234 rfl (lv_at hl 0 rfl) ?_
        refine lv_iconst (v := nI 2) hx hb d_LW_law_235 (by decide) ?_
        refine lv_iadd hx hb d_LW_law_236 ?_
        refine mt_ri (y := nI (i + 2)) (nI_add _ _) ?_
        refine va_sld hx hb hX hbl hbA hS (vp_in_nI (by omega) (by omega)) d_LW_law_237 ?_
        refine mt_ri (y := xs (i + 2)) (by rw [nI_clamp (by omega)]) ?_
        have hP : va_P g.1 gx_cl (cW g ad so sw u1.1 u1.2.1 u1.2.2.1 u1.2.2.2.1 u1.2.2.2.2 ++ mW g md J n v kn pr ar X) H := hP
        have hD : va_D A (cW g ad so sw u1.1 u1.2.1 u1.2.2.1 u1.2.2.2.1 u1.2.2.2.2 ++ mW g md J n v kn pr ar X) := hD
        refine lx_cwR (w1 := cW g ad so sw u1.1 u1.2.1 u1.2.2.1 u1.2.2.2.1 u1.2.2.2.2) (w2 := mW g md J n v kn pr ar X) (va_runV (own := R_law) (As := [.int (xs (i + 1)), .int (xs (i + 2))]) (rest := [.int r1]) ⟨hx, hb, hml, hown, hts⟩ (c_MM_union (l := l) (g := g) (md := md) (J := J) (n := n) (v := v) (kn := kn) (pr := pr) (ar := ar) (X := X) (x := xs (i + 1)) (y := xs (i + 2)) hM) (cwV 2 hts (gx_goodV wd_460 wd_461 wd_462 wd_7 wd_463) rfl rfl rfl (by decide +kernel) ⟨Nat.le_of_ble_eq_true rfl, Nat.le_of_ble_eq_true rfl⟩) (gc_preVW (gc_recv (lx_PR hP) hG (ci := 5) rfl (q0 := 0) rfl) (lx_PR hP) hG (lx_DR hD)) rfl rfl hl.1 rfl (lv_room (Nat.le_of_ble_eq_true rfl)) d_LW_law_238 ⟨Nat.le_of_ble_eq_true rfl, Nat.le_of_ble_eq_true rfl⟩) hP hD hS (fun r2 w2 H locs hr2 hP hD hS => ?_)
        obtain ⟨T1, hs1, hC1⟩ := hr1
        obtain ⟨T2, hs2, hM1⟩ := hr2
        obtain ⟨hq1, hq2⟩ := sp_cmb_det hs1 hs2
        subst hq2
        refine lv_icmp_eq (tgt := 671) hx hb d_LW_law_241 (by decide) (fun _ => ?_) (fun h9 => absurd hq1 h9)
        exact nx u1 w2 T1 (v, vk, va, vb, vl) H locs hC1 hM1 hP hD hS
      · ---- case 4
        refine lv_tableIn (off := 214) (tgt := 246) hx hb d_LW_law_32 (by decide) (by decide) (by decide) (by decide) ?_
        refine lv_aload_n hx hb d_LW_law_246 rfl (lv_at hl 2 rfl) ?_
        refine lv_aload_n hx hb d_LW_law_247 rfl (lv_at hl 3 rfl) ?_
        refine lv_iload_n hx hb d_LW_law_248 rfl (lv_at hl 0 rfl) ?_
        refine lv_iconst (v := nI 1) hx hb d_LW_law_249 (by decide) ?_
        refine lv_iadd hx hb d_LW_law_250 ?_
        refine mt_ri (y := nI (i + 1)) (nI_add _ _) ?_
        refine va_sld hx hb hX hbl hbA hS (vp_in_nI (by omega) (by omega)) d_LW_law_251 ?_
        refine mt_ri (y := xs (i + 1)) (by rw [nI_clamp (by omega)]) ?_
        refine lv_aload_n hx hb d_LW_law_252 rfl (lv_at hl 3 rfl) ?_
        refine lv_iload_n hx hb d_LW_law_253 rfl (lv_at hl 0 rfl) ?_
        refine lv_iconst (v := nI 2) hx hb d_LW_law_254 (by decide) ?_
        refine lv_iadd hx hb d_LW_law_255 ?_
        refine mt_ri (y := nI (i + 2)) (nI_add _ _) ?_
        refine va_sld hx hb hX hbl hbA hS (vp_in_nI (by omega) (by omega)) d_LW_law_256 ?_
        refine mt_ri (y := xs (i + 2)) (by rw [nI_clamp (by omega)]) ?_
        refine lx_cwL (w1 := cW g ad so sw I n v us ct) (w2 := mW g md J n v kn pr ar X) (va_runV (own := R_law) (As := [.int (xs (i + 1)), .int (xs (i + 2))]) (rest := []) ⟨hx, hb, hml, hown, hts⟩ (c_MT_meet (l := l) (g := g) (ad := ad) (so := so) (sw := sw) (I := I) (n := n) (v := v) (us := us) (ct := ct) (x := xs (i + 1)) (y := xs (i + 2)) hC) (cwV 2 hts (gx_goodV wd_265 wd_266 wd_267 wd_1 wd_268) rfl rfl rfl (by decide +kernel) ⟨Nat.le_of_ble_eq_true rfl, Nat.le_of_ble_eq_true rfl⟩) (gc_preVW (gc_recv (lx_PL hP) hG (ci := 4) rfl (q0 := 15) rfl) (lx_PL hP) hG (lx_DL hD)) rfl rfl hl.1 rfl (lv_room (Nat.le_of_ble_eq_true rfl)) d_LW_law_257 ⟨Nat.le_of_ble_eq_true rfl, Nat.le_of_ble_eq_true rfl⟩) hP hD hS (fun r1 u1 H locs hr1 hP hD hS => ?_)
        refine lv_aload_n hx hb d_LW_law_260 rfl (lv_at hl 1 rfl) ?_
        refine lv_aload_n hx hb d_LW_law_261 rfl (lv_at hl 3 rfl) ?_
        refine lv_iload_n hx hb d_LW_law_262 rfl (lv_at hl 0 rfl) ?_
        refine lv_iconst (v := nI 1) hx hb d_LW_law_263 (by decide) ?_
        refine lv_iadd hx hb d_LW_law_264 ?_
        refine mt_ri (y := nI (i + 1)) (nI_add _ _) ?_
        refine va_sld hx hb hX hbl hbA hS (vp_in_nI (by omega) (by omega)) d_LW_law_265 ?_
        refine mt_ri (y := xs (i + 1)) (by rw [nI_clamp (by omega)]) ?_
        refine lv_aload_n hx hb d_LW_law_266 rfl (lv_at hl 3 rfl) ?_
        refine lv_iload_n hx hb d_LW_law_267 rfl (lv_at hl 0 rfl) ?_
        refine lv_iconst (v := nI 2) hx hb d_LW_law_268 (by decide) ?_
        refine lv_iadd hx hb d_LW_law_269 ?_
        refine mt_ri (y := nI (i + 2)) (nI_add _ _) ?_
        refine va_sld hx hb hX hbl hbA hS (vp_in_nI (by omega) (by omega)) d_LW_law_270 ?_
        refine mt_ri (y := xs (i + 2)) (by rw [nI_clamp (by omega)]) ?_
        have hP : va_P g.1 gx_cl (cW g ad so sw u1.1 u1.2.1 u1.2.2.1 u1.2.2.2.1 u1.2.2.2.2 ++ mW g md J n v kn pr ar X) H := hP
        have hD : va_D A (cW g ad so sw u1.1 u1.2.1 u1.2.2.1 u1.2.2.2.1 u1.2.2.2.2 ++ mW g md J n v kn pr ar X) := hD
        refine lx_cwR (w1 := cW g ad so sw u1.1 u1.2.1 u1.2.2.1 u1.2.2.2.1 u1.2.2.2.2) (w2 := mW g md J n v kn pr ar X) (va_runV (own := R_law) (As := [.int (xs (i + 1)), .int (xs (i + 2))]) (rest := [.int r1]) ⟨hx, hb, hml, hown, hts⟩ (c_MM_meet (l := l) (g := g) (md := md) (J := J) (n := n) (v := v) (kn := kn) (pr := pr) (ar := ar) (X := X) (x := xs (i + 1)) (y := xs (i + 2)) hM) (cwV 2 hts (gx_goodV wd_464 wd_465 wd_466 wd_7 wd_467) rfl rfl rfl (by decide +kernel) ⟨Nat.le_of_ble_eq_true rfl, Nat.le_of_ble_eq_true rfl⟩) (gc_preVW (gc_recv (lx_PR hP) hG (ci := 5) rfl (q0 := 0) rfl) (lx_PR hP) hG (lx_DR hD)) rfl rfl hl.1 rfl (lv_room (Nat.le_of_ble_eq_true rfl)) d_LW_law_271 ⟨Nat.le_of_ble_eq_true rfl, Nat.le_of_ble_eq_true rfl⟩) hP hD hS (fun r2 w2 H locs hr2 hP hD hS => ?_)
        obtain ⟨T1, hs1, hC1⟩ := hr1
        obtain ⟨T2, hs2, hM1⟩ := hr2
        obtain ⟨hq1, hq2⟩ := sp_cmb_det hs1 hs2
        subst hq2
        refine lv_icmp_eq (tgt := 671) hx hb d_LW_law_274 (by decide) (fun _ => ?_) (fun h9 => absurd hq1 h9)
        exact nx u1 w2 T1 (v, vk, va, vb, vl) H locs hC1 hM1 hP hD hS
      · ---- case 5
        refine lv_tableIn (off := 247) (tgt := 279) hx hb d_LW_law_32 (by decide) (by decide) (by decide) (by decide) ?_
        refine lv_aload_n hx hb d_LW_law_279 rfl (lv_at hl 2 rfl) ?_
        refine lv_aload_n hx hb d_LW_law_280 rfl (lv_at hl 3 rfl) ?_
        refine lv_iload_n hx hb d_LW_law_281 rfl (lv_at hl 0 rfl) ?_
        refine lv_iconst (v := nI 1) hx hb d_LW_law_282 (by decide) ?_
        refine lv_iadd hx hb d_LW_law_283 ?_
        refine mt_ri (y := nI (i + 1)) (nI_add _ _) ?_
        refine va_sld hx hb hX hbl hbA hS (vp_in_nI (by omega) (by omega)) d_LW_law_284 ?_
        refine mt_ri (y := xs (i + 1)) (by rw [nI_clamp (by omega)]) ?_
        refine lx_cwL (w1 := cW g ad so sw I n v us ct) (w2 := mW g md J n v kn pr ar X) (va_runV (own := R_law) (As := [.int (xs (i + 1))]) (rest := []) ⟨hx, hb, hml, hown, hts⟩ (c_MT_not (l := l) (g := g) (ad := ad) (so := so) (sw := sw) (I := I) (n := n) (v := v) (us := us) (ct := ct) (x := xs (i + 1)) hC) (cwV 1 hts (gx_goodV wd_269 wd_270 wd_271 wd_1 wd_272) rfl rfl rfl (by decide +kernel) ⟨Nat.le_of_ble_eq_true rfl, Nat.le_of_ble_eq_true rfl⟩) (gc_preVW (gc_recv (lx_PL hP) hG (ci := 4) rfl (q0 := 15) rfl) (lx_PL hP) hG (lx_DL hD)) rfl rfl hl.1 rfl (lv_room (Nat.le_of_ble_eq_true rfl)) d_LW_law_285 ⟨Nat.le_of_ble_eq_true rfl, Nat.le_of_ble_eq_true rfl⟩) hP hD hS (fun r1 u1 H locs hr1 hP hD hS => ?_)
        refine lv_aload_n hx hb d_LW_law_288 rfl (lv_at hl 1 rfl) ?_
        refine lv_aload_n hx hb d_LW_law_289 rfl (lv_at hl 3 rfl) ?_
        refine lv_iload_n hx hb d_LW_law_290 rfl (lv_at hl 0 rfl) ?_
        refine lv_iconst (v := nI 1) hx hb d_LW_law_291 (by decide) ?_
        refine lv_iadd hx hb d_LW_law_292 ?_
        refine mt_ri (y := nI (i + 1)) (nI_add _ _) ?_
        refine va_sld hx hb hX hbl hbA hS (vp_in_nI (by omega) (by omega)) d_LW_law_293 ?_
        refine mt_ri (y := xs (i + 1)) (by rw [nI_clamp (by omega)]) ?_
        have hP : va_P g.1 gx_cl (cW g ad so sw u1.1 u1.2.1 u1.2.2.1 u1.2.2.2.1 u1.2.2.2.2 ++ mW g md J n v kn pr ar X) H := hP
        have hD : va_D A (cW g ad so sw u1.1 u1.2.1 u1.2.2.1 u1.2.2.2.1 u1.2.2.2.2 ++ mW g md J n v kn pr ar X) := hD
        refine lx_cwR (w1 := cW g ad so sw u1.1 u1.2.1 u1.2.2.1 u1.2.2.2.1 u1.2.2.2.2) (w2 := mW g md J n v kn pr ar X) (va_runV (own := R_law) (As := [.int (xs (i + 1))]) (rest := [.int r1]) ⟨hx, hb, hml, hown, hts⟩ (c_MM_not (l := l) (g := g) (md := md) (J := J) (n := n) (v := v) (kn := kn) (pr := pr) (ar := ar) (X := X) (x := xs (i + 1)) hM) (cwV 1 hts (gx_goodV wd_468 wd_469 wd_470 wd_7 wd_471) rfl rfl rfl (by decide +kernel) ⟨Nat.le_of_ble_eq_true rfl, Nat.le_of_ble_eq_true rfl⟩) (gc_preVW (gc_recv (lx_PR hP) hG (ci := 5) rfl (q0 := 0) rfl) (lx_PR hP) hG (lx_DR hD)) rfl rfl hl.1 rfl (lv_room (Nat.le_of_ble_eq_true rfl)) d_LW_law_294 ⟨Nat.le_of_ble_eq_true rfl, Nat.le_of_ble_eq_true rfl⟩) hP hD hS (fun r2 w2 H locs hr2 hP hD hS => ?_)
        obtain ⟨T1, hs1, hC1⟩ := hr1
        obtain ⟨T2, hs2, hM1⟩ := hr2
        obtain ⟨hq1, hq2⟩ := sp_cmb_det hs1 hs2
        subst hq2
        refine lv_icmp_eq (tgt := 671) hx hb d_LW_law_297 (by decide) (fun _ => ?_) (fun h9 => absurd hq1 h9)
        exact nx u1 w2 T1 (v, vk, va, vb, vl) H locs hC1 hM1 hP hD hS
      · ---- case 6
        refine lv_tableIn (off := 270) (tgt := 302) hx hb d_LW_law_32 (by decide) (by decide) (by decide) (by decide) ?_
        refine lv_aload_n hx hb d_LW_law_302 rfl (lv_at hl 2 rfl) ?_
        refine lx_cwL (w1 := cW g ad so sw I n v us ct) (w2 := mW g md J n v kn pr ar X) (va_runV (own := R_law) (As := []) (rest := []) ⟨hx, hb, hml, hown, hts⟩ (c_MT_any (l := l) (g := g) (ad := ad) (so := so) (sw := sw) (I := I) (n := n) (v := v) (us := us) (ct := ct)  hC) (cwV 0 hts (gx_goodV wd_273 wd_274 wd_275 wd_1 wd_276) rfl rfl rfl (by decide +kernel) ⟨Nat.le_of_ble_eq_true rfl, Nat.le_of_ble_eq_true rfl⟩) (gc_preVW (gc_recv (lx_PL hP) hG (ci := 4) rfl (q0 := 15) rfl) (lx_PL hP) hG (lx_DL hD)) rfl rfl hl.1 rfl (lv_room (Nat.le_of_ble_eq_true rfl)) d_LW_law_303 ⟨Nat.le_of_ble_eq_true rfl, Nat.le_of_ble_eq_true rfl⟩) hP hD hS (fun r1 u1 H locs hr1 hP hD hS => ?_)
        refine lv_aload_n hx hb d_LW_law_306 rfl (lv_at hl 1 rfl) ?_
        have hP : va_P g.1 gx_cl (cW g ad so sw u1.1 u1.2.1 u1.2.2.1 u1.2.2.2.1 u1.2.2.2.2 ++ mW g md J n v kn pr ar X) H := hP
        have hD : va_D A (cW g ad so sw u1.1 u1.2.1 u1.2.2.1 u1.2.2.2.1 u1.2.2.2.2 ++ mW g md J n v kn pr ar X) := hD
        refine lx_cwR (w1 := cW g ad so sw u1.1 u1.2.1 u1.2.2.1 u1.2.2.2.1 u1.2.2.2.2) (w2 := mW g md J n v kn pr ar X) (va_runV (own := R_law) (As := []) (rest := [.int r1]) ⟨hx, hb, hml, hown, hts⟩ (c_MM_any (l := l) (g := g) (md := md) (J := J) (n := n) (v := v) (kn := kn) (pr := pr) (ar := ar) (X := X)  hM) (cwV 0 hts (gx_goodV wd_472 wd_473 wd_474 wd_7 wd_475) rfl rfl rfl (by decide +kernel) ⟨Nat.le_of_ble_eq_true rfl, Nat.le_of_ble_eq_true rfl⟩) (gc_preVW (gc_recv (lx_PR hP) hG (ci := 5) rfl (q0 := 0) rfl) (lx_PR hP) hG (lx_DR hD)) rfl rfl hl.1 rfl (lv_room (Nat.le_of_ble_eq_true rfl)) d_LW_law_307 ⟨Nat.le_of_ble_eq_true rfl, Nat.le_of_ble_eq_true rfl⟩) hP hD hS (fun r2 w2 H locs hr2 hP hD hS => ?_)
        obtain ⟨T1, hs1, hC1⟩ := hr1
        obtain ⟨T2, hs2, hM1⟩ := hr2
        obtain ⟨hq1, hq2⟩ := sp_any_det hs1 hs2
        subst hq2
        refine lv_icmp_eq (tgt := 671) hx hb d_LW_law_310 (by decide) (fun _ => ?_) (fun h9 => absurd hq1 h9)
        exact nx u1 w2 T1 (v, vk, va, vb, vl) H locs hC1 hM1 hP hD hS
      · ---- case 7
        refine lv_tableIn (off := 283) (tgt := 315) hx hb d_LW_law_32 (by decide) (by decide) (by decide) (by decide) ?_
        refine lv_aload_n hx hb d_LW_law_315 rfl (lv_at hl 2 rfl) ?_
        refine vp_callSi (va_runV (own := R_law) (As := []) (rest := []) ⟨hx, hb, hml, hown, hts⟩ (c_MT_types (l := l) (g := g) (ad := ad) (so := so) (sw := sw) (I := I) (n := n) (v := v) (us := us) (ct := ct) ) (cwV 0 hts (gx_goodV wd_277 wd_278 wd_279 wd_1 wd_280) rfl rfl rfl (by decide +kernel) ⟨Nat.le_of_ble_eq_true rfl, Nat.le_of_ble_eq_true rfl⟩) (gc_preV (gc_recv (lx_PL hP) hG (ci := 4) rfl (q0 := 15) rfl) (lx_PL hP) hG) rfl rfl hl.1 rfl (lv_room (Nat.le_of_ble_eq_true rfl)) d_LW_law_316 ⟨Nat.le_of_ble_eq_true rfl, Nat.le_of_ble_eq_true rfl⟩).run (fun r1 hr1 => ?_)
        refine lv_aload_n hx hb d_LW_law_319 rfl (lv_at hl 1 rfl) ?_
        have hP : va_P g.1 gx_cl (cW g ad so sw I n v us ct ++ mW g md J n v kn pr ar X) H := hP
        have hD : va_D A (cW g ad so sw I n v us ct ++ mW g md J n v kn pr ar X) := hD
        refine vp_callSi (va_runV (own := R_law) (As := []) (rest := [.int r1]) ⟨hx, hb, hml, hown, hts⟩ (c_MM_types (l := l) (g := g) (md := md) (J := J) (n := n) (v := v) (kn := kn) (pr := pr) (ar := ar) (X := X) ) (cwV 0 hts (gx_goodV wd_476 wd_477 wd_478 wd_7 wd_479) rfl rfl rfl (by decide +kernel) ⟨Nat.le_of_ble_eq_true rfl, Nat.le_of_ble_eq_true rfl⟩) (gc_preV (gc_recv (lx_PR hP) hG (ci := 5) rfl (q0 := 0) rfl) (lx_PR hP) hG) rfl rfl hl.1 rfl (lv_room (Nat.le_of_ble_eq_true rfl)) d_LW_law_320 ⟨Nat.le_of_ble_eq_true rfl, Nat.le_of_ble_eq_true rfl⟩).run (fun r2 hr2 => ?_)
        have hq1 : r1 = r2 := hr1.trans hr2.symm
        refine lv_icmp_eq (tgt := 671) hx hb d_LW_law_323 (by decide) (fun _ => ?_) (fun h9 => absurd hq1 h9)
        exact nx (I, n, v, us, ct) (J, n, v, kn, pr, ar, X) (n, tk, ta, tb, dp, fc) (v, vk, va, vb, vl) H locs hC hM hP hD hS
      · ---- case 8
        refine lv_tableIn (off := 296) (tgt := 328) hx hb d_LW_law_32 (by decide) (by decide) (by decide) (by decide) ?_
        refine lv_aload_n hx hb d_LW_law_328 rfl (lv_at hl 2 rfl) ?_
        refine lv_aload_n hx hb d_LW_law_329 rfl (lv_at hl 3 rfl) ?_
        refine lv_iload_n hx hb d_LW_law_330 rfl (lv_at hl 0 rfl) ?_
        refine lv_iconst (v := nI 1) hx hb d_LW_law_331 (by decide) ?_
        refine lv_iadd hx hb d_LW_law_332 ?_
        refine mt_ri (y := nI (i + 1)) (nI_add _ _) ?_
        refine va_sld hx hb hX hbl hbA hS (vp_in_nI (by omega) (by omega)) d_LW_law_333 ?_
        refine mt_ri (y := xs (i + 1)) (by rw [nI_clamp (by omega)]) ?_
        refine vp_callSi (va_runV (own := R_law) (As := [.int (xs (i + 1))]) (rest := []) ⟨hx, hb, hml, hown, hts⟩ (c_MT_empty (l := l) (g := g) (ad := ad) (so := so) (sw := sw) (I := I) (n := n) (v := v) (us := us) (ct := ct) (x := xs (i + 1)) hC) (cwV 1 hts (gx_goodV wd_281 wd_282 wd_283 wd_1 wd_284) rfl rfl rfl (by decide +kernel) ⟨Nat.le_of_ble_eq_true rfl, Nat.le_of_ble_eq_true rfl⟩) (gc_preV (gc_recv (lx_PL hP) hG (ci := 4) rfl (q0 := 15) rfl) (lx_PL hP) hG) rfl rfl hl.1 rfl (lv_room (Nat.le_of_ble_eq_true rfl)) d_LW_law_334 ⟨Nat.le_of_ble_eq_true rfl, Nat.le_of_ble_eq_true rfl⟩).run (fun r1 hr1 => ?_)
        refine lv_aload_n hx hb d_LW_law_337 rfl (lv_at hl 1 rfl) ?_
        refine lv_aload_n hx hb d_LW_law_338 rfl (lv_at hl 3 rfl) ?_
        refine lv_iload_n hx hb d_LW_law_339 rfl (lv_at hl 0 rfl) ?_
        refine lv_iconst (v := nI 1) hx hb d_LW_law_340 (by decide) ?_
        refine lv_iadd hx hb d_LW_law_341 ?_
        refine mt_ri (y := nI (i + 1)) (nI_add _ _) ?_
        refine va_sld hx hb hX hbl hbA hS (vp_in_nI (by omega) (by omega)) d_LW_law_342 ?_
        refine mt_ri (y := xs (i + 1)) (by rw [nI_clamp (by omega)]) ?_
        have hP : va_P g.1 gx_cl (cW g ad so sw I n v us ct ++ mW g md J n v kn pr ar X) H := hP
        have hD : va_D A (cW g ad so sw I n v us ct ++ mW g md J n v kn pr ar X) := hD
        refine lx_cwR (w1 := cW g ad so sw I n v us ct) (w2 := mW g md J n v kn pr ar X) (va_runV (own := R_law) (As := [.int (xs (i + 1))]) (rest := [.int r1]) ⟨hx, hb, hml, hown, hts⟩ (c_MM_empty (l := l) (g := g) (md := md) (J := J) (n := n) (v := v) (kn := kn) (pr := pr) (ar := ar) (X := X) (x := xs (i + 1)) hM) (cwV 1 hts (gx_goodV wd_480 wd_481 wd_482 wd_7 wd_483) rfl rfl rfl (by decide +kernel) ⟨Nat.le_of_ble_eq_true rfl, Nat.le_of_ble_eq_true rfl⟩) (gc_preVW (gc_recv (lx_PR hP) hG (ci := 5) rfl (q0 := 0) rfl) (lx_PR hP) hG (lx_DR hD)) rfl rfl hl.1 rfl (lv_room (Nat.le_of_ble_eq_true rfl)) d_LW_law_343 ⟨Nat.le_of_ble_eq_true rfl, Nat.le_of_ble_eq_true rfl⟩) hP hD hS (fun r2 w2 H locs hr2 hP hD hS => ?_)
        obtain ⟨hs2, hM1⟩ := hr2
        have hq1 : r1 = r2 := sp_b_det hr1 hs2
        refine lv_icmp_eq (tgt := 671) hx hb d_LW_law_346 (by decide) (fun _ => ?_) (fun h9 => absurd hq1 h9)
        exact nx (I, n, v, us, ct) w2 (n, tk, ta, tb, dp, fc) (v, vk, va, vb, vl) H locs hC hM1 hP hD hS
      · ---- case 9
        refine lv_tableIn (off := 319) (tgt := 351) hx hb d_LW_law_32 (by decide) (by decide) (by decide) (by decide) ?_
        refine lv_aload_n hx hb d_LW_law_351 rfl (lv_at hl 2 rfl) ?_
        refine lv_aload_n hx hb d_LW_law_352 rfl (lv_at hl 3 rfl) ?_
        refine lv_iload_n hx hb d_LW_law_353 rfl (lv_at hl 0 rfl) ?_
        refine lv_iconst (v := nI 1) hx hb d_LW_law_354 (by decide) ?_
        refine lv_iadd hx hb d_LW_law_355 ?_
        refine mt_ri (y := nI (i + 1)) (nI_add _ _) ?_
        refine va_sld hx hb hX hbl hbA hS (vp_in_nI (by omega) (by omega)) d_LW_law_356 ?_
        refine mt_ri (y := xs (i + 1)) (by rw [nI_clamp (by omega)]) ?_
        refine lv_aload_n hx hb d_LW_law_357 rfl (lv_at hl 3 rfl) ?_
        refine lv_iload_n hx hb d_LW_law_358 rfl (lv_at hl 0 rfl) ?_
        refine lv_iconst (v := nI 2) hx hb d_LW_law_359 (by decide) ?_
        refine lv_iadd hx hb d_LW_law_360 ?_
        refine mt_ri (y := nI (i + 2)) (nI_add _ _) ?_
        refine va_sld hx hb hX hbl hbA hS (vp_in_nI (by omega) (by omega)) d_LW_law_361 ?_
        refine mt_ri (y := xs (i + 2)) (by rw [nI_clamp (by omega)]) ?_
        refine vp_callSi (va_runV (own := R_law) (As := [.int (xs (i + 1)), .int (xs (i + 2))]) (rest := []) ⟨hx, hb, hml, hown, hts⟩ (c_MT_within (l := l) (g := g) (ad := ad) (so := so) (sw := sw) (I := I) (n := n) (v := v) (us := us) (ct := ct) (x := xs (i + 1)) (y := xs (i + 2)) hC) (cwV 2 hts (gx_goodV wd_289 wd_290 wd_291 wd_1 wd_292) rfl rfl rfl (by decide +kernel) ⟨Nat.le_of_ble_eq_true rfl, Nat.le_of_ble_eq_true rfl⟩) (gc_preV (gc_recv (lx_PL hP) hG (ci := 4) rfl (q0 := 15) rfl) (lx_PL hP) hG) rfl rfl hl.1 rfl (lv_room (Nat.le_of_ble_eq_true rfl)) d_LW_law_362 ⟨Nat.le_of_ble_eq_true rfl, Nat.le_of_ble_eq_true rfl⟩).run (fun r1 hr1 => ?_)
        refine lv_aload_n hx hb d_LW_law_365 rfl (lv_at hl 1 rfl) ?_
        refine lv_aload_n hx hb d_LW_law_366 rfl (lv_at hl 3 rfl) ?_
        refine lv_iload_n hx hb d_LW_law_367 rfl (lv_at hl 0 rfl) ?_
        refine lv_iconst (v := nI 1) hx hb d_LW_law_368 (by decide) ?_
        refine lv_iadd hx hb d_LW_law_369 ?_
        refine mt_ri (y := nI (i + 1)) (nI_add _ _) ?_
        refine va_sld hx hb hX hbl hbA hS (vp_in_nI (by omega) (by omega)) d_LW_law_370 ?_
        refine mt_ri (y := xs (i + 1)) (by rw [nI_clamp (by omega)]) ?_
        refine lv_aload_n hx hb d_LW_law_371 rfl (lv_at hl 3 rfl) ?_
        refine lv_iload_n hx hb d_LW_law_372 rfl (lv_at hl 0 rfl) ?_
        refine lv_iconst (v := nI 2) hx hb d_LW_law_373 (by decide) ?_
        refine lv_iadd hx hb d_LW_law_374 ?_
        refine mt_ri (y := nI (i + 2)) (nI_add _ _) ?_
        refine va_sld hx hb hX hbl hbA hS (vp_in_nI (by omega) (by omega)) d_LW_law_375 ?_
        refine mt_ri (y := xs (i + 2)) (by rw [nI_clamp (by omega)]) ?_
        have hP : va_P g.1 gx_cl (cW g ad so sw I n v us ct ++ mW g md J n v kn pr ar X) H := hP
        have hD : va_D A (cW g ad so sw I n v us ct ++ mW g md J n v kn pr ar X) := hD
        refine lx_cwR (w1 := cW g ad so sw I n v us ct) (w2 := mW g md J n v kn pr ar X) (va_runV (own := R_law) (As := [.int (xs (i + 1)), .int (xs (i + 2))]) (rest := [.int r1]) ⟨hx, hb, hml, hown, hts⟩ (c_MM_within (l := l) (g := g) (md := md) (J := J) (n := n) (v := v) (kn := kn) (pr := pr) (ar := ar) (X := X) (x := xs (i + 1)) (y := xs (i + 2)) hM) (cwV 2 hts (gx_goodV wd_536 wd_537 wd_538 wd_7 wd_539) rfl rfl rfl (by decide +kernel) ⟨Nat.le_of_ble_eq_true rfl, Nat.le_of_ble_eq_true rfl⟩) (gc_preVW (gc_recv (lx_PR hP) hG (ci := 5) rfl (q0 := 0) rfl) (lx_PR hP) hG (lx_DR hD)) rfl rfl hl.1 rfl (lv_room (Nat.le_of_ble_eq_true rfl)) d_LW_law_376 ⟨Nat.le_of_ble_eq_true rfl, Nat.le_of_ble_eq_true rfl⟩) hP hD hS (fun r2 w2 H locs hr2 hP hD hS => ?_)
        obtain ⟨hs2, hM1⟩ := hr2
        have hq1 : r1 = r2 := sp_b_det hr1 hs2
        refine lv_icmp_eq (tgt := 671) hx hb d_LW_law_379 (by decide) (fun _ => ?_) (fun h9 => absurd hq1 h9)
        exact nx (I, n, v, us, ct) w2 (n, tk, ta, tb, dp, fc) (v, vk, va, vb, vl) H locs hC hM1 hP hD hS
      · ---- case 10
        refine lv_tableIn (off := 352) (tgt := 384) hx hb d_LW_law_32 (by decide) (by decide) (by decide) (by decide) ?_
        refine lv_aload_n hx hb d_LW_law_384 rfl (lv_at hl 2 rfl) ?_
        refine lv_aload_n hx hb d_LW_law_385 rfl (lv_at hl 3 rfl) ?_
        refine lv_iload_n hx hb d_LW_law_386 rfl (lv_at hl 0 rfl) ?_
        refine lv_iconst (v := nI 1) hx hb d_LW_law_387 (by decide) ?_
        refine lv_iadd hx hb d_LW_law_388 ?_
        refine mt_ri (y := nI (i + 1)) (nI_add _ _) ?_
        refine va_sld hx hb hX hbl hbA hS (vp_in_nI (by omega) (by omega)) d_LW_law_389 ?_
        refine mt_ri (y := xs (i + 1)) (by rw [nI_clamp (by omega)]) ?_
        refine lv_aload_n hx hb d_LW_law_390 rfl (lv_at hl 3 rfl) ?_
        refine lv_iload_n hx hb d_LW_law_391 rfl (lv_at hl 0 rfl) ?_
        refine lv_iconst (v := nI 2) hx hb d_LW_law_392 (by decide) ?_
        refine lv_iadd hx hb d_LW_law_393 ?_
        refine mt_ri (y := nI (i + 2)) (nI_add _ _) ?_
        refine va_sld hx hb hX hbl hbA hS (vp_in_nI (by omega) (by omega)) d_LW_law_394 ?_
        refine mt_ri (y := xs (i + 2)) (by rw [nI_clamp (by omega)]) ?_
        refine vp_callSi (va_runV (own := R_law) (As := [.int (xs (i + 1)), .int (xs (i + 2))]) (rest := []) ⟨hx, hb, hml, hown, hts⟩ (c_MT_compare (l := l) (g := g) (ad := ad) (so := so) (sw := sw) (I := I) (n := n) (v := v) (us := us) (ct := ct) (x := xs (i + 1)) (y := xs (i + 2)) hC) (cwV 2 hts (gx_goodV wd_298 wd_299 wd_300 wd_1 wd_301) rfl rfl rfl (by decide +kernel) ⟨Nat.le_of_ble_eq_true rfl, Nat.le_of_ble_eq_true rfl⟩) (gc_preV (gc_recv (lx_PL hP) hG (ci := 4) rfl (q0 := 15) rfl) (lx_PL hP) hG) rfl rfl hl.1 rfl (lv_room (Nat.le_of_ble_eq_true rfl)) d_LW_law_395 ⟨Nat.le_of_ble_eq_true rfl, Nat.le_of_ble_eq_true rfl⟩).run (fun r1 hr1 => ?_)
        refine lv_aload_n hx hb d_LW_law_398 rfl (lv_at hl 1 rfl) ?_
        refine lv_aload_n hx hb d_LW_law_399 rfl (lv_at hl 3 rfl) ?_
        refine lv_iload_n hx hb d_LW_law_400 rfl (lv_at hl 0 rfl) ?_
        refine lv_iconst (v := nI 1) hx hb d_LW_law_401 (by decide) ?_
        refine lv_iadd hx hb d_LW_law_402 ?_
        refine mt_ri (y := nI (i + 1)) (nI_add _ _) ?_
        refine va_sld hx hb hX hbl hbA hS (vp_in_nI (by omega) (by omega)) d_LW_law_403 ?_
        refine mt_ri (y := xs (i + 1)) (by rw [nI_clamp (by omega)]) ?_
        refine lv_aload_n hx hb d_LW_law_404 rfl (lv_at hl 3 rfl) ?_
        refine lv_iload_n hx hb d_LW_law_405 rfl (lv_at hl 0 rfl) ?_
        refine lv_iconst (v := nI 2) hx hb d_LW_law_406 (by decide) ?_
        refine lv_iadd hx hb d_LW_law_407 ?_
        refine mt_ri (y := nI (i + 2)) (nI_add _ _) ?_
        refine va_sld hx hb hX hbl hbA hS (vp_in_nI (by omega) (by omega)) d_LW_law_408 ?_
        refine mt_ri (y := xs (i + 2)) (by rw [nI_clamp (by omega)]) ?_
        have hP : va_P g.1 gx_cl (cW g ad so sw I n v us ct ++ mW g md J n v kn pr ar X) H := hP
        have hD : va_D A (cW g ad so sw I n v us ct ++ mW g md J n v kn pr ar X) := hD
        refine lx_cwR (w1 := cW g ad so sw I n v us ct) (w2 := mW g md J n v kn pr ar X) (va_runV (own := R_law) (As := [.int (xs (i + 1)), .int (xs (i + 2))]) (rest := [.int r1]) ⟨hx, hb, hml, hown, hts⟩ (c_MM_compare (l := l) (g := g) (md := md) (J := J) (n := n) (v := v) (kn := kn) (pr := pr) (ar := ar) (X := X) (x := xs (i + 1)) (y := xs (i + 2)) hM) (cwV 2 hts (gx_goodV wd_544 wd_545 wd_546 wd_7 wd_547) rfl rfl rfl (by decide +kernel) ⟨Nat.le_of_ble_eq_true rfl, Nat.le_of_ble_eq_true rfl⟩) (gc_preVW (gc_recv (lx_PR hP) hG (ci := 5) rfl (q0 := 0) rfl) (lx_PR hP) hG (lx_DR hD)) rfl rfl hl.1 rfl (lv_room (Nat.le_of_ble_eq_true rfl)) d_LW_law_409 ⟨Nat.le_of_ble_eq_true rfl, Nat.le_of_ble_eq_true rfl⟩) hP hD hS (fun r2 w2 H locs hr2 hP hD hS => ?_)
        obtain ⟨hs2, hM1⟩ := hr2
        have hq1 : r1 = r2 := sp_cmp_det (show n ≤ 100 by omega) hr1 hs2
        refine lv_icmp_eq (tgt := 671) hx hb d_LW_law_412 (by decide) (fun _ => ?_) (fun h9 => absurd hq1 h9)
        exact nx (I, n, v, us, ct) w2 (n, tk, ta, tb, dp, fc) (v, vk, va, vb, vl) H locs hC hM1 hP hD hS
      · ---- case 11
        refine lv_tableIn (off := 385) (tgt := 417) hx hb d_LW_law_32 (by decide) (by decide) (by decide) (by decide) ?_
        refine lv_aload_n hx hb d_LW_law_417 rfl (lv_at hl 2 rfl) ?_
        refine lv_aload_n hx hb d_LW_law_418 rfl (lv_at hl 3 rfl) ?_
        refine lv_iload_n hx hb d_LW_law_419 rfl (lv_at hl 0 rfl) ?_
        refine lv_iconst (v := nI 1) hx hb d_LW_law_420 (by decide) ?_
        refine lv_iadd hx hb d_LW_law_421 ?_
        refine mt_ri (y := nI (i + 1)) (nI_add _ _) ?_
        refine va_sld hx hb hX hbl hbA hS (vp_in_nI (by omega) (by omega)) d_LW_law_422 ?_
        refine mt_ri (y := xs (i + 1)) (by rw [nI_clamp (by omega)]) ?_
        refine lv_aload_n hx hb d_LW_law_423 rfl (lv_at hl 3 rfl) ?_
        refine lv_iload_n hx hb d_LW_law_424 rfl (lv_at hl 0 rfl) ?_
        refine lv_iconst (v := nI 2) hx hb d_LW_law_425 (by decide) ?_
        refine lv_iadd hx hb d_LW_law_426 ?_
        refine mt_ri (y := nI (i + 2)) (nI_add _ _) ?_
        refine va_sld hx hb hX hbl hbA hS (vp_in_nI (by omega) (by omega)) d_LW_law_427 ?_
        refine mt_ri (y := xs (i + 2)) (by rw [nI_clamp (by omega)]) ?_
        refine lv_aload_n hx hb d_LW_law_428 rfl (lv_at hl 3 rfl) ?_
        refine lv_iload_n hx hb d_LW_law_429 rfl (lv_at hl 0 rfl) ?_
        refine lv_iconst (v := nI 3) hx hb d_LW_law_430 (by decide) ?_
        refine lv_iadd hx hb d_LW_law_431 ?_
        refine mt_ri (y := nI (i + 3)) (nI_add _ _) ?_
        refine va_sld hx hb hX hbl hbA hS (vp_in_nI (by omega) (by omega)) d_LW_law_432 ?_
        refine mt_ri (y := xs (i + 3)) (by rw [nI_clamp (by omega)]) ?_
        refine lx_cwL (w1 := cW g ad so sw I n v us ct) (w2 := mW g md J n v kn pr ar X) (va_runV (own := R_law) (As := [.int (xs (i + 1)), .int (xs (i + 2)), .int (xs (i + 3))]) (rest := []) ⟨hx, hb, hml, hown, hts⟩ (c_MT_answers (l := l) (g := g) (ad := ad) (so := so) (sw := sw) (I := I) (n := n) (v := v) (us := us) (ct := ct) (x := xs (i + 1)) (y := xs (i + 2)) (o := xs (i + 3)) hC) (cwV 3 hts (gx_goodV wd_302 wd_303 wd_304 wd_1 wd_305) rfl rfl rfl (by decide +kernel) ⟨Nat.le_of_ble_eq_true rfl, Nat.le_of_ble_eq_true rfl⟩) (gc_preVW (gc_recv (lx_PL hP) hG (ci := 4) rfl (q0 := 15) rfl) (lx_PL hP) hG (lx_DL hD)) rfl rfl hl.1 rfl (lv_room (Nat.le_of_ble_eq_true rfl)) d_LW_law_433 ⟨Nat.le_of_ble_eq_true rfl, Nat.le_of_ble_eq_true rfl⟩) hP hD hS (fun r1 u1 H locs hr1 hP hD hS => ?_)
        refine lv_aload_n hx hb d_LW_law_436 rfl (lv_at hl 1 rfl) ?_
        refine lv_aload_n hx hb d_LW_law_437 rfl (lv_at hl 3 rfl) ?_
        refine lv_iload_n hx hb d_LW_law_438 rfl (lv_at hl 0 rfl) ?_
        refine lv_iconst (v := nI 1) hx hb d_LW_law_439 (by decide) ?_
        refine lv_iadd hx hb d_LW_law_440 ?_
        refine mt_ri (y := nI (i + 1)) (nI_add _ _) ?_
        refine va_sld hx hb hX hbl hbA hS (vp_in_nI (by omega) (by omega)) d_LW_law_441 ?_
        refine mt_ri (y := xs (i + 1)) (by rw [nI_clamp (by omega)]) ?_
        refine lv_aload_n hx hb d_LW_law_442 rfl (lv_at hl 3 rfl) ?_
        refine lv_iload_n hx hb d_LW_law_443 rfl (lv_at hl 0 rfl) ?_
        refine lv_iconst (v := nI 2) hx hb d_LW_law_444 (by decide) ?_
        refine lv_iadd hx hb d_LW_law_445 ?_
        refine mt_ri (y := nI (i + 2)) (nI_add _ _) ?_
        refine va_sld hx hb hX hbl hbA hS (vp_in_nI (by omega) (by omega)) d_LW_law_446 ?_
        refine mt_ri (y := xs (i + 2)) (by rw [nI_clamp (by omega)]) ?_
        refine lv_aload_n hx hb d_LW_law_447 rfl (lv_at hl 3 rfl) ?_
        refine lv_iload_n hx hb d_LW_law_448 rfl (lv_at hl 0 rfl) ?_
        refine lv_iconst (v := nI 3) hx hb d_LW_law_449 (by decide) ?_
        refine lv_iadd hx hb d_LW_law_450 ?_
        refine mt_ri (y := nI (i + 3)) (nI_add _ _) ?_
        refine va_sld hx hb hX hbl hbA hS (vp_in_nI (by omega) (by omega)) d_LW_law_451 ?_
        refine mt_ri (y := xs (i + 3)) (by rw [nI_clamp (by omega)]) ?_
        have hP : va_P g.1 gx_cl (cW g ad so sw u1.1 u1.2.1 u1.2.2.1 u1.2.2.2.1 u1.2.2.2.2 ++ mW g md J n v kn pr ar X) H := hP
        have hD : va_D A (cW g ad so sw u1.1 u1.2.1 u1.2.2.1 u1.2.2.2.1 u1.2.2.2.2 ++ mW g md J n v kn pr ar X) := hD
        refine lx_cwR (w1 := cW g ad so sw u1.1 u1.2.1 u1.2.2.1 u1.2.2.2.1 u1.2.2.2.2) (w2 := mW g md J n v kn pr ar X) (va_runV (own := R_law) (As := [.int (xs (i + 1)), .int (xs (i + 2)), .int (xs (i + 3))]) (rest := [.int r1]) ⟨hx, hb, hml, hown, hts⟩ (c_MM_answers (l := l) (g := g) (md := md) (J := J) (n := n) (v := v) (kn := kn) (pr := pr) (ar := ar) (X := X) (x := xs (i + 1)) (y := xs (i + 2)) (o := xs (i + 3)) hM) (cwV 3 hts (gx_goodV wd_548 wd_549 wd_550 wd_7 wd_551) rfl rfl rfl (by decide +kernel) ⟨Nat.le_of_ble_eq_true rfl, Nat.le_of_ble_eq_true rfl⟩) (gc_preVW (gc_recv (lx_PR hP) hG (ci := 5) rfl (q0 := 0) rfl) (lx_PR hP) hG (lx_DR hD)) rfl rfl hl.1 rfl (lv_room (Nat.le_of_ble_eq_true rfl)) d_LW_law_452 ⟨Nat.le_of_ble_eq_true rfl, Nat.le_of_ble_eq_true rfl⟩) hP hD hS (fun r2 w2 H locs hr2 hP hD hS => ?_)
        obtain ⟨hs1, hC1⟩ := hr1
        obtain ⟨hs2, hM1⟩ := hr2
        have hq1 : r1 = r2 := sp_b_det hs1 hs2
        refine lv_icmp_eq (tgt := 671) hx hb d_LW_law_455 (by decide) (fun _ => ?_) (fun h9 => absurd hq1 h9)
        exact nx u1 w2 (n, tk, ta, tb, dp, fc) (v, vk, va, vb, vl) H locs hC1 hM1 hP hD hS
      · ---- case 12
        refine lv_tableIn (off := 428) (tgt := 460) hx hb d_LW_law_32 (by decide) (by decide) (by decide) (by decide) ?_
        refine lv_aload_n hx hb d_LW_law_460 rfl (lv_at hl 2 rfl) ?_
        refine lv_aload_n hx hb d_LW_law_461 rfl (lv_at hl 3 rfl) ?_
        refine lv_iload_n hx hb d_LW_law_462 rfl (lv_at hl 0 rfl) ?_
        refine lv_iconst (v := nI 1) hx hb d_LW_law_463 (by decide) ?_
        refine lv_iadd hx hb d_LW_law_464 ?_
        refine mt_ri (y := nI (i + 1)) (nI_add _ _) ?_
        refine va_sld hx hb hX hbl hbA hS (vp_in_nI (by omega) (by omega)) d_LW_law_465 ?_
        refine mt_ri (y := xs (i + 1)) (by rw [nI_clamp (by omega)]) ?_
        refine lx_cwL (w1 := cW g ad so sw I n v us ct) (w2 := mW g md J n v kn pr ar X) (va_runV (own := R_law) (As := [.int (xs (i + 1))]) (rest := []) ⟨hx, hb, hml, hown, hts⟩ (c_MT_constant (l := l) (g := g) (ad := ad) (so := so) (sw := sw) (I := I) (n := n) (v := v) (us := us) (ct := ct) (x := xs (i + 1)) hC) (cwV 1 hts (gx_goodV wd_311 wd_312 wd_313 wd_1 wd_314) rfl rfl rfl (by decide +kernel) ⟨Nat.le_of_ble_eq_true rfl, Nat.le_of_ble_eq_true rfl⟩) (gc_preVW (gc_recv (lx_PL hP) hG (ci := 4) rfl (q0 := 15) rfl) (lx_PL hP) hG (lx_DL hD)) rfl rfl hl.1 rfl (lv_room (Nat.le_of_ble_eq_true rfl)) d_LW_law_466 ⟨Nat.le_of_ble_eq_true rfl, Nat.le_of_ble_eq_true rfl⟩) hP hD hS (fun r1 u1 H locs hr1 hP hD hS => ?_)
        refine lv_aload_n hx hb d_LW_law_469 rfl (lv_at hl 1 rfl) ?_
        refine lv_aload_n hx hb d_LW_law_470 rfl (lv_at hl 3 rfl) ?_
        refine lv_iload_n hx hb d_LW_law_471 rfl (lv_at hl 0 rfl) ?_
        refine lv_iconst (v := nI 1) hx hb d_LW_law_472 (by decide) ?_
        refine lv_iadd hx hb d_LW_law_473 ?_
        refine mt_ri (y := nI (i + 1)) (nI_add _ _) ?_
        refine va_sld hx hb hX hbl hbA hS (vp_in_nI (by omega) (by omega)) d_LW_law_474 ?_
        refine mt_ri (y := xs (i + 1)) (by rw [nI_clamp (by omega)]) ?_
        have hP : va_P g.1 gx_cl (cW g ad so sw u1.1 u1.2.1 u1.2.2.1 u1.2.2.2.1 u1.2.2.2.2 ++ mW g md J n v kn pr ar X) H := hP
        have hD : va_D A (cW g ad so sw u1.1 u1.2.1 u1.2.2.1 u1.2.2.2.1 u1.2.2.2.2 ++ mW g md J n v kn pr ar X) := hD
        refine lx_cwR (w1 := cW g ad so sw u1.1 u1.2.1 u1.2.2.1 u1.2.2.2.1 u1.2.2.2.2) (w2 := mW g md J n v kn pr ar X) (va_runV (own := R_law) (As := [.int (xs (i + 1))]) (rest := [.int r1]) ⟨hx, hb, hml, hown, hts⟩ (c_MM_constant (l := l) (g := g) (md := md) (J := J) (n := n) (v := v) (kn := kn) (pr := pr) (ar := ar) (X := X) (x := xs (i + 1)) hM) (cwV 1 hts (gx_goodV wd_552 wd_553 wd_554 wd_7 wd_555) rfl rfl rfl (by decide +kernel) ⟨Nat.le_of_ble_eq_true rfl, Nat.le_of_ble_eq_true rfl⟩) (gc_preVW (gc_recv (lx_PR hP) hG (ci := 5) rfl (q0 := 0) rfl) (lx_PR hP) hG (lx_DR hD)) rfl rfl hl.1 rfl (lv_room (Nat.le_of_ble_eq_true rfl)) d_LW_law_475 ⟨Nat.le_of_ble_eq_true rfl, Nat.le_of_ble_eq_true rfl⟩) hP hD hS (fun r2 w2 H locs hr2 hP hD hS => ?_)
        obtain ⟨V1, hs1, hC1⟩ := hr1
        obtain ⟨V2, hs2, hM1⟩ := hr2
        obtain ⟨hq1, hq2⟩ := sp_con_det hs1 hs2
        subst hq2
        refine lv_icmp_eq (tgt := 671) hx hb d_LW_law_478 (by decide) (fun _ => ?_) (fun h9 => absurd hq1 h9)
        exact nx u1 w2 (n, tk, ta, tb, dp, fc) V1 H locs hC1 hM1 hP hD hS
      · ---- case 13
        refine lv_tableIn (off := 451) (tgt := 483) hx hb d_LW_law_32 (by decide) (by decide) (by decide) (by decide) ?_
        refine lv_aload_n hx hb d_LW_law_483 rfl (lv_at hl 2 rfl) ?_
        refine lv_aload_n hx hb d_LW_law_484 rfl (lv_at hl 3 rfl) ?_
        refine lv_iload_n hx hb d_LW_law_485 rfl (lv_at hl 0 rfl) ?_
        refine lv_iconst (v := nI 1) hx hb d_LW_law_486 (by decide) ?_
        refine lv_iadd hx hb d_LW_law_487 ?_
        refine mt_ri (y := nI (i + 1)) (nI_add _ _) ?_
        refine va_sld hx hb hX hbl hbA hS (vp_in_nI (by omega) (by omega)) d_LW_law_488 ?_
        refine mt_ri (y := xs (i + 1)) (by rw [nI_clamp (by omega)]) ?_
        refine lv_aload_n hx hb d_LW_law_489 rfl (lv_at hl 3 rfl) ?_
        refine lv_iload_n hx hb d_LW_law_490 rfl (lv_at hl 0 rfl) ?_
        refine lv_iconst (v := nI 2) hx hb d_LW_law_491 (by decide) ?_
        refine lv_iadd hx hb d_LW_law_492 ?_
        refine mt_ri (y := nI (i + 2)) (nI_add _ _) ?_
        refine va_sld hx hb hX hbl hbA hS (vp_in_nI (by omega) (by omega)) d_LW_law_493 ?_
        refine mt_ri (y := xs (i + 2)) (by rw [nI_clamp (by omega)]) ?_
        refine lx_cwL (w1 := cW g ad so sw I n v us ct) (w2 := mW g md J n v kn pr ar X) (va_runV (own := R_law) (As := [.int (xs (i + 1)), .int (xs (i + 2))]) (rest := []) ⟨hx, hb, hml, hown, hts⟩ (c_MT_pair (l := l) (g := g) (ad := ad) (so := so) (sw := sw) (I := I) (n := n) (v := v) (us := us) (ct := ct) (x := xs (i + 1)) (y := xs (i + 2)) hC) (cwV 2 hts (gx_goodV wd_323 wd_324 wd_325 wd_1 wd_326) rfl rfl rfl (by decide +kernel) ⟨Nat.le_of_ble_eq_true rfl, Nat.le_of_ble_eq_true rfl⟩) (gc_preVW (gc_recv (lx_PL hP) hG (ci := 4) rfl (q0 := 15) rfl) (lx_PL hP) hG (lx_DL hD)) rfl rfl hl.1 rfl (lv_room (Nat.le_of_ble_eq_true rfl)) d_LW_law_494 ⟨Nat.le_of_ble_eq_true rfl, Nat.le_of_ble_eq_true rfl⟩) hP hD hS (fun r1 u1 H locs hr1 hP hD hS => ?_)
        refine lv_aload_n hx hb d_LW_law_497 rfl (lv_at hl 1 rfl) ?_
        refine lv_aload_n hx hb d_LW_law_498 rfl (lv_at hl 3 rfl) ?_
        refine lv_iload_n hx hb d_LW_law_499 rfl (lv_at hl 0 rfl) ?_
        refine lv_iconst (v := nI 1) hx hb d_LW_law_500 (by decide) ?_
        refine lv_iadd hx hb d_LW_law_501 ?_
        refine mt_ri (y := nI (i + 1)) (nI_add _ _) ?_
        refine va_sld hx hb hX hbl hbA hS (vp_in_nI (by omega) (by omega)) d_LW_law_502 ?_
        refine mt_ri (y := xs (i + 1)) (by rw [nI_clamp (by omega)]) ?_
        refine lv_aload_n hx hb d_LW_law_503 rfl (lv_at hl 3 rfl) ?_
        refine lv_iload_n hx hb d_LW_law_504 rfl (lv_at hl 0 rfl) ?_
        refine lv_iconst (v := nI 2) hx hb d_LW_law_505 (by decide) ?_
        refine lv_iadd hx hb d_LW_law_506 ?_
        refine mt_ri (y := nI (i + 2)) (nI_add _ _) ?_
        refine va_sld hx hb hX hbl hbA hS (vp_in_nI (by omega) (by omega)) d_LW_law_507 ?_
        refine mt_ri (y := xs (i + 2)) (by rw [nI_clamp (by omega)]) ?_
        have hP : va_P g.1 gx_cl (cW g ad so sw u1.1 u1.2.1 u1.2.2.1 u1.2.2.2.1 u1.2.2.2.2 ++ mW g md J n v kn pr ar X) H := hP
        have hD : va_D A (cW g ad so sw u1.1 u1.2.1 u1.2.2.1 u1.2.2.2.1 u1.2.2.2.2 ++ mW g md J n v kn pr ar X) := hD
        refine lx_cwR (w1 := cW g ad so sw u1.1 u1.2.1 u1.2.2.1 u1.2.2.2.1 u1.2.2.2.2) (w2 := mW g md J n v kn pr ar X) (va_runV (own := R_law) (As := [.int (xs (i + 1)), .int (xs (i + 2))]) (rest := [.int r1]) ⟨hx, hb, hml, hown, hts⟩ (c_MM_pair (l := l) (g := g) (md := md) (J := J) (n := n) (v := v) (kn := kn) (pr := pr) (ar := ar) (X := X) (x := xs (i + 1)) (y := xs (i + 2)) hM) (cwV 2 hts (gx_goodV wd_560 wd_561 wd_562 wd_7 wd_563) rfl rfl rfl (by decide +kernel) ⟨Nat.le_of_ble_eq_true rfl, Nat.le_of_ble_eq_true rfl⟩) (gc_preVW (gc_recv (lx_PR hP) hG (ci := 5) rfl (q0 := 0) rfl) (lx_PR hP) hG (lx_DR hD)) rfl rfl hl.1 rfl (lv_room (Nat.le_of_ble_eq_true rfl)) d_LW_law_508 ⟨Nat.le_of_ble_eq_true rfl, Nat.le_of_ble_eq_true rfl⟩) hP hD hS (fun r2 w2 H locs hr2 hP hD hS => ?_)
        obtain ⟨V1, hs1, hC1⟩ := hr1
        obtain ⟨V2, hs2, hM1⟩ := hr2
        obtain ⟨hq1, hq2⟩ := sp_pai_det hs1 hs2
        subst hq2
        refine lv_icmp_eq (tgt := 671) hx hb d_LW_law_511 (by decide) (fun _ => ?_) (fun h9 => absurd hq1 h9)
        exact nx u1 w2 (n, tk, ta, tb, dp, fc) V1 H locs hC1 hM1 hP hD hS
      · ---- case 14
        refine lv_tableIn (off := 484) (tgt := 516) hx hb d_LW_law_32 (by decide) (by decide) (by decide) (by decide) ?_
        refine lv_aload_n hx hb d_LW_law_516 rfl (lv_at hl 2 rfl) ?_
        refine lv_aload_n hx hb d_LW_law_517 rfl (lv_at hl 3 rfl) ?_
        refine lv_iload_n hx hb d_LW_law_518 rfl (lv_at hl 0 rfl) ?_
        refine lv_iconst (v := nI 1) hx hb d_LW_law_519 (by decide) ?_
        refine lv_iadd hx hb d_LW_law_520 ?_
        refine mt_ri (y := nI (i + 1)) (nI_add _ _) ?_
        refine va_sld hx hb hX hbl hbA hS (vp_in_nI (by omega) (by omega)) d_LW_law_521 ?_
        refine mt_ri (y := xs (i + 1)) (by rw [nI_clamp (by omega)]) ?_
        refine lx_cwL (w1 := cW g ad so sw I n v us ct) (w2 := mW g md J n v kn pr ar X) (va_runV (own := R_law) (As := [.int (xs (i + 1))]) (rest := []) ⟨hx, hb, hml, hown, hts⟩ (c_MT_function (l := l) (g := g) (ad := ad) (so := so) (sw := sw) (I := I) (n := n) (v := v) (us := us) (ct := ct) (x := xs (i + 1)) hC) (cwV 1 hts (gx_goodV wd_331 wd_332 wd_333 wd_1 wd_334) rfl rfl rfl (by decide +kernel) ⟨Nat.le_of_ble_eq_true rfl, Nat.le_of_ble_eq_true rfl⟩) (gc_preVW (gc_recv (lx_PL hP) hG (ci := 4) rfl (q0 := 15) rfl) (lx_PL hP) hG (lx_DL hD)) rfl rfl hl.1 rfl (lv_room (Nat.le_of_ble_eq_true rfl)) d_LW_law_522 ⟨Nat.le_of_ble_eq_true rfl, Nat.le_of_ble_eq_true rfl⟩) hP hD hS (fun r1 u1 H locs hr1 hP hD hS => ?_)
        refine lv_aload_n hx hb d_LW_law_525 rfl (lv_at hl 1 rfl) ?_
        refine lv_aload_n hx hb d_LW_law_526 rfl (lv_at hl 3 rfl) ?_
        refine lv_iload_n hx hb d_LW_law_527 rfl (lv_at hl 0 rfl) ?_
        refine lv_iconst (v := nI 1) hx hb d_LW_law_528 (by decide) ?_
        refine lv_iadd hx hb d_LW_law_529 ?_
        refine mt_ri (y := nI (i + 1)) (nI_add _ _) ?_
        refine va_sld hx hb hX hbl hbA hS (vp_in_nI (by omega) (by omega)) d_LW_law_530 ?_
        refine mt_ri (y := xs (i + 1)) (by rw [nI_clamp (by omega)]) ?_
        have hP : va_P g.1 gx_cl (cW g ad so sw u1.1 u1.2.1 u1.2.2.1 u1.2.2.2.1 u1.2.2.2.2 ++ mW g md J n v kn pr ar X) H := hP
        have hD : va_D A (cW g ad so sw u1.1 u1.2.1 u1.2.2.1 u1.2.2.2.1 u1.2.2.2.2 ++ mW g md J n v kn pr ar X) := hD
        refine lx_cwR (w1 := cW g ad so sw u1.1 u1.2.1 u1.2.2.1 u1.2.2.2.1 u1.2.2.2.2) (w2 := mW g md J n v kn pr ar X) (va_runV (own := R_law) (As := [.int (xs (i + 1))]) (rest := [.int r1]) ⟨hx, hb, hml, hown, hts⟩ (c_MM_function (l := l) (g := g) (md := md) (J := J) (n := n) (v := v) (kn := kn) (pr := pr) (ar := ar) (X := X) (x := xs (i + 1)) hM) (cwV 1 hts (gx_goodV wd_568 wd_569 wd_570 wd_7 wd_571) rfl rfl rfl (by decide +kernel) ⟨Nat.le_of_ble_eq_true rfl, Nat.le_of_ble_eq_true rfl⟩) (gc_preVW (gc_recv (lx_PR hP) hG (ci := 5) rfl (q0 := 0) rfl) (lx_PR hP) hG (lx_DR hD)) rfl rfl hl.1 rfl (lv_room (Nat.le_of_ble_eq_true rfl)) d_LW_law_531 ⟨Nat.le_of_ble_eq_true rfl, Nat.le_of_ble_eq_true rfl⟩) hP hD hS (fun r2 w2 H locs hr2 hP hD hS => ?_)
        obtain ⟨V1, hs1, hC1⟩ := hr1
        obtain ⟨V2, hs2, hM1⟩ := hr2
        obtain ⟨hq1, hq2⟩ := sp_fun_det (show n ≤ 100 by omega) hs1 hs2
        subst hq2
        refine lv_icmp_eq (tgt := 671) hx hb d_LW_law_534 (by decide) (fun _ => ?_) (fun h9 => absurd hq1 h9)
        exact nx u1 w2 (n, tk, ta, tb, dp, fc) V1 H locs hC1 hM1 hP hD hS
      · ---- case 15
        refine lv_tableIn (off := 507) (tgt := 539) hx hb d_LW_law_32 (by decide) (by decide) (by decide) (by decide) ?_
        refine lv_aload_n hx hb d_LW_law_539 rfl (lv_at hl 2 rfl) ?_
        refine lv_aload_n hx hb d_LW_law_540 rfl (lv_at hl 3 rfl) ?_
        refine lv_iload_n hx hb d_LW_law_541 rfl (lv_at hl 0 rfl) ?_
        refine lv_iconst (v := nI 1) hx hb d_LW_law_542 (by decide) ?_
        refine lv_iadd hx hb d_LW_law_543 ?_
        refine mt_ri (y := nI (i + 1)) (nI_add _ _) ?_
        refine va_sld hx hb hX hbl hbA hS (vp_in_nI (by omega) (by omega)) d_LW_law_544 ?_
        refine mt_ri (y := xs (i + 1)) (by rw [nI_clamp (by omega)]) ?_
        refine lv_aload_n hx hb d_LW_law_545 rfl (lv_at hl 3 rfl) ?_
        refine lv_iload_n hx hb d_LW_law_546 rfl (lv_at hl 0 rfl) ?_
        refine lv_iconst (v := nI 2) hx hb d_LW_law_547 (by decide) ?_
        refine lv_iadd hx hb d_LW_law_548 ?_
        refine mt_ri (y := nI (i + 2)) (nI_add _ _) ?_
        refine va_sld hx hb hX hbl hbA hS (vp_in_nI (by omega) (by omega)) d_LW_law_549 ?_
        refine mt_ri (y := xs (i + 2)) (by rw [nI_clamp (by omega)]) ?_
        refine lx_cwL (w1 := cW g ad so sw I n v us ct) (w2 := mW g md J n v kn pr ar X) (va_runV (own := R_law) (As := [.int (xs (i + 1)), .int (xs (i + 2))]) (rest := []) ⟨hx, hb, hml, hown, hts⟩ (c_MT_belongs (l := l) (g := g) (ad := ad) (so := so) (sw := sw) (I := I) (n := n) (v := v) (us := us) (ct := ct) (x := xs (i + 1)) (y := xs (i + 2)) hC) (cwV 2 hts (gx_goodV wd_335 wd_336 wd_337 wd_1 wd_338) rfl rfl rfl (by decide +kernel) ⟨Nat.le_of_ble_eq_true rfl, Nat.le_of_ble_eq_true rfl⟩) (gc_preVW (gc_recv (lx_PL hP) hG (ci := 4) rfl (q0 := 15) rfl) (lx_PL hP) hG (lx_DL hD)) rfl rfl hl.1 rfl (lv_room (Nat.le_of_ble_eq_true rfl)) d_LW_law_550 ⟨Nat.le_of_ble_eq_true rfl, Nat.le_of_ble_eq_true rfl⟩) hP hD hS (fun r1 u1 H locs hr1 hP hD hS => ?_)
        refine lv_aload_n hx hb d_LW_law_553 rfl (lv_at hl 1 rfl) ?_
        refine lv_aload_n hx hb d_LW_law_554 rfl (lv_at hl 3 rfl) ?_
        refine lv_iload_n hx hb d_LW_law_555 rfl (lv_at hl 0 rfl) ?_
        refine lv_iconst (v := nI 1) hx hb d_LW_law_556 (by decide) ?_
        refine lv_iadd hx hb d_LW_law_557 ?_
        refine mt_ri (y := nI (i + 1)) (nI_add _ _) ?_
        refine va_sld hx hb hX hbl hbA hS (vp_in_nI (by omega) (by omega)) d_LW_law_558 ?_
        refine mt_ri (y := xs (i + 1)) (by rw [nI_clamp (by omega)]) ?_
        refine lv_aload_n hx hb d_LW_law_559 rfl (lv_at hl 3 rfl) ?_
        refine lv_iload_n hx hb d_LW_law_560 rfl (lv_at hl 0 rfl) ?_
        refine lv_iconst (v := nI 2) hx hb d_LW_law_561 (by decide) ?_
        refine lv_iadd hx hb d_LW_law_562 ?_
        refine mt_ri (y := nI (i + 2)) (nI_add _ _) ?_
        refine va_sld hx hb hX hbl hbA hS (vp_in_nI (by omega) (by omega)) d_LW_law_563 ?_
        refine mt_ri (y := xs (i + 2)) (by rw [nI_clamp (by omega)]) ?_
        have hP : va_P g.1 gx_cl (cW g ad so sw u1.1 u1.2.1 u1.2.2.1 u1.2.2.2.1 u1.2.2.2.2 ++ mW g md J n v kn pr ar X) H := hP
        have hD : va_D A (cW g ad so sw u1.1 u1.2.1 u1.2.2.1 u1.2.2.2.1 u1.2.2.2.2 ++ mW g md J n v kn pr ar X) := hD
        refine lx_cwR (w1 := cW g ad so sw u1.1 u1.2.1 u1.2.2.1 u1.2.2.2.1 u1.2.2.2.2) (w2 := mW g md J n v kn pr ar X) (va_runV (own := R_law) (As := [.int (xs (i + 1)), .int (xs (i + 2))]) (rest := [.int r1]) ⟨hx, hb, hml, hown, hts⟩ (c_MM_belongs (l := l) (g := g) (md := md) (J := J) (n := n) (v := v) (kn := kn) (pr := pr) (ar := ar) (X := X) (x := xs (i + 1)) (y := xs (i + 2)) hM) (cwV 2 hts (gx_goodV wd_572 wd_573 wd_574 wd_7 wd_575) rfl rfl rfl (by decide +kernel) ⟨Nat.le_of_ble_eq_true rfl, Nat.le_of_ble_eq_true rfl⟩) (gc_preVW (gc_recv (lx_PR hP) hG (ci := 5) rfl (q0 := 0) rfl) (lx_PR hP) hG (lx_DR hD)) rfl rfl hl.1 rfl (lv_room (Nat.le_of_ble_eq_true rfl)) d_LW_law_564 ⟨Nat.le_of_ble_eq_true rfl, Nat.le_of_ble_eq_true rfl⟩) hP hD hS (fun r2 w2 H locs hr2 hP hD hS => ?_)
        obtain ⟨hs1, hC1⟩ := hr1
        obtain ⟨hs2, hM1⟩ := hr2
        have hq1 : r1 = r2 := sp_b_det hs1 hs2
        refine lv_icmp_eq (tgt := 671) hx hb d_LW_law_567 (by decide) (fun _ => ?_) (fun h9 => absurd hq1 h9)
        exact nx u1 w2 (n, tk, ta, tb, dp, fc) (v, vk, va, vb, vl) H locs hC1 hM1 hP hD hS
      · ---- case 16
        refine lv_tableIn (off := 540) (tgt := 572) hx hb d_LW_law_32 (by decide) (by decide) (by decide) (by decide) ?_
        refine lv_aload_n hx hb d_LW_law_572 rfl (lv_at hl 2 rfl) ?_
        refine lv_aload_n hx hb d_LW_law_573 rfl (lv_at hl 3 rfl) ?_
        refine lv_iload_n hx hb d_LW_law_574 rfl (lv_at hl 0 rfl) ?_
        refine lv_iconst (v := nI 1) hx hb d_LW_law_575 (by decide) ?_
        refine lv_iadd hx hb d_LW_law_576 ?_
        refine mt_ri (y := nI (i + 1)) (nI_add _ _) ?_
        refine va_sld hx hb hX hbl hbA hS (vp_in_nI (by omega) (by omega)) d_LW_law_577 ?_
        refine mt_ri (y := xs (i + 1)) (by rw [nI_clamp (by omega)]) ?_
        refine lv_aload_n hx hb d_LW_law_578 rfl (lv_at hl 3 rfl) ?_
        refine lv_iload_n hx hb d_LW_law_579 rfl (lv_at hl 0 rfl) ?_
        refine lv_iconst (v := nI 2) hx hb d_LW_law_580 (by decide) ?_
        refine lv_iadd hx hb d_LW_law_581 ?_
        refine mt_ri (y := nI (i + 2)) (nI_add _ _) ?_
        refine va_sld hx hb hX hbl hbA hS (vp_in_nI (by omega) (by omega)) d_LW_law_582 ?_
        refine mt_ri (y := xs (i + 2)) (by rw [nI_clamp (by omega)]) ?_
        refine lv_aload_n hx hb d_LW_law_583 rfl (lv_at hl 3 rfl) ?_
        refine lv_iload_n hx hb d_LW_law_584 rfl (lv_at hl 0 rfl) ?_
        refine lv_iconst (v := nI 3) hx hb d_LW_law_585 (by decide) ?_
        refine lv_iadd hx hb d_LW_law_586 ?_
        refine mt_ri (y := nI (i + 3)) (nI_add _ _) ?_
        refine va_sld hx hb hX hbl hbA hS (vp_in_nI (by omega) (by omega)) d_LW_law_587 ?_
        refine mt_ri (y := xs (i + 3)) (by rw [nI_clamp (by omega)]) ?_
        refine lv_aload_n hx hb d_LW_law_588 rfl (lv_at hl 3 rfl) ?_
        refine lv_iload_n hx hb d_LW_law_589 rfl (lv_at hl 0 rfl) ?_
        refine lv_iconst (v := nI 4) hx hb d_LW_law_590 (by decide) ?_
        refine lv_iadd hx hb d_LW_law_591 ?_
        refine mt_ri (y := nI (i + 4)) (nI_add _ _) ?_
        refine va_sld hx hb hX hbl hbA hS (vp_in_nI (by omega) (by omega)) d_LW_law_592 ?_
        refine mt_ri (y := xs (i + 4)) (by rw [nI_clamp (by omega)]) ?_
        refine lx_cwL (w1 := cW g ad so sw I n v us ct) (w2 := mW g md J n v kn pr ar X) (va_runV (own := R_law) (As := [.int (xs (i + 1)), .int (xs (i + 2)), .int (xs (i + 3)), .int (xs (i + 4))]) (rest := []) ⟨hx, hb, hml, hown, hts⟩ (c_MT_match (l := l) (g := g) (ad := ad) (so := so) (sw := sw) (I := I) (n := n) (v := v) (us := us) (ct := ct) (x := xs (i + 1)) (y := xs (i + 2)) (o := xs (i + 3)) (q := xs (i + 4)) hC) (cwV 4 hts (gx_goodV wd_358 wd_359 wd_360 wd_1 wd_361) rfl rfl rfl (by decide +kernel) ⟨Nat.le_of_ble_eq_true rfl, Nat.le_of_ble_eq_true rfl⟩) (gc_preVW (gc_recv (lx_PL hP) hG (ci := 4) rfl (q0 := 15) rfl) (lx_PL hP) hG (lx_DL hD)) rfl rfl hl.1 rfl (lv_room (Nat.le_of_ble_eq_true rfl)) d_LW_law_593 ⟨Nat.le_of_ble_eq_true rfl, Nat.le_of_ble_eq_true rfl⟩) hP hD hS (fun r1 u1 H locs hr1 hP hD hS => ?_)
        refine lv_aload_n hx hb d_LW_law_596 rfl (lv_at hl 1 rfl) ?_
        refine lv_aload_n hx hb d_LW_law_597 rfl (lv_at hl 3 rfl) ?_
        refine lv_iload_n hx hb d_LW_law_598 rfl (lv_at hl 0 rfl) ?_
        refine lv_iconst (v := nI 1) hx hb d_LW_law_599 (by decide) ?_
        refine lv_iadd hx hb d_LW_law_600 ?_
        refine mt_ri (y := nI (i + 1)) (nI_add _ _) ?_
        refine va_sld hx hb hX hbl hbA hS (vp_in_nI (by omega) (by omega)) d_LW_law_601 ?_
        refine mt_ri (y := xs (i + 1)) (by rw [nI_clamp (by omega)]) ?_
        refine lv_aload_n hx hb d_LW_law_602 rfl (lv_at hl 3 rfl) ?_
        refine lv_iload_n hx hb d_LW_law_603 rfl (lv_at hl 0 rfl) ?_
        refine lv_iconst (v := nI 2) hx hb d_LW_law_604 (by decide) ?_
        refine lv_iadd hx hb d_LW_law_605 ?_
        refine mt_ri (y := nI (i + 2)) (nI_add _ _) ?_
        refine va_sld hx hb hX hbl hbA hS (vp_in_nI (by omega) (by omega)) d_LW_law_606 ?_
        refine mt_ri (y := xs (i + 2)) (by rw [nI_clamp (by omega)]) ?_
        refine lv_aload_n hx hb d_LW_law_607 rfl (lv_at hl 3 rfl) ?_
        refine lv_iload_n hx hb d_LW_law_608 rfl (lv_at hl 0 rfl) ?_
        refine lv_iconst (v := nI 3) hx hb d_LW_law_609 (by decide) ?_
        refine lv_iadd hx hb d_LW_law_610 ?_
        refine mt_ri (y := nI (i + 3)) (nI_add _ _) ?_
        refine va_sld hx hb hX hbl hbA hS (vp_in_nI (by omega) (by omega)) d_LW_law_611 ?_
        refine mt_ri (y := xs (i + 3)) (by rw [nI_clamp (by omega)]) ?_
        refine lv_aload_n hx hb d_LW_law_612 rfl (lv_at hl 3 rfl) ?_
        refine lv_iload_n hx hb d_LW_law_613 rfl (lv_at hl 0 rfl) ?_
        refine lv_iconst (v := nI 4) hx hb d_LW_law_614 (by decide) ?_
        refine lv_iadd hx hb d_LW_law_615 ?_
        refine mt_ri (y := nI (i + 4)) (nI_add _ _) ?_
        refine va_sld hx hb hX hbl hbA hS (vp_in_nI (by omega) (by omega)) d_LW_law_616 ?_
        refine mt_ri (y := xs (i + 4)) (by rw [nI_clamp (by omega)]) ?_
        have hP : va_P g.1 gx_cl (cW g ad so sw u1.1 u1.2.1 u1.2.2.1 u1.2.2.2.1 u1.2.2.2.2 ++ mW g md J n v kn pr ar X) H := hP
        have hD : va_D A (cW g ad so sw u1.1 u1.2.1 u1.2.2.1 u1.2.2.2.1 u1.2.2.2.2 ++ mW g md J n v kn pr ar X) := hD
        refine lx_cwR (w1 := cW g ad so sw u1.1 u1.2.1 u1.2.2.1 u1.2.2.2.1 u1.2.2.2.2) (w2 := mW g md J n v kn pr ar X) (va_runV (own := R_law) (As := [.int (xs (i + 1)), .int (xs (i + 2)), .int (xs (i + 3)), .int (xs (i + 4))]) (rest := [.int r1]) ⟨hx, hb, hml, hown, hts⟩ (c_MM_match (l := l) (g := g) (md := md) (J := J) (n := n) (v := v) (kn := kn) (pr := pr) (ar := ar) (X := X) (x := xs (i + 1)) (y := xs (i + 2)) (o := xs (i + 3)) (q := xs (i + 4)) hM) (cwV 4 hts (gx_goodV wd_592 wd_593 wd_594 wd_7 wd_595) rfl rfl rfl (by decide +kernel) ⟨Nat.le_of_ble_eq_true rfl, Nat.le_of_ble_eq_true rfl⟩) (gc_preVW (gc_recv (lx_PR hP) hG (ci := 5) rfl (q0 := 0) rfl) (lx_PR hP) hG (lx_DR hD)) rfl rfl hl.1 rfl (lv_room (Nat.le_of_ble_eq_true rfl)) d_LW_law_617 ⟨Nat.le_of_ble_eq_true rfl, Nat.le_of_ble_eq_true rfl⟩) hP hD hS (fun r2 w2 H locs hr2 hP hD hS => ?_)
        obtain ⟨hs1, hC1⟩ := hr1
        obtain ⟨hs2, hM1⟩ := hr2
        have hq1 : r1 = r2 := sp_mat_det (show n ≤ 100 by omega) (show v ≤ 100 by omega) hs1 hs2
        refine lv_icmp_eq (tgt := 671) hx hb d_LW_law_620 (by decide) (fun _ => ?_) (fun h9 => absurd hq1 h9)
        exact nx u1 w2 (n, tk, ta, tb, dp, fc) (v, vk, va, vb, vl) H locs hC1 hM1 hP hD hS
      · ---- case 17
        refine lv_tableIn (off := 593) (tgt := 625) hx hb d_LW_law_32 (by decide) (by decide) (by decide) (by decide) ?_
        refine lv_aload_n hx hb d_LW_law_625 rfl (lv_at hl 2 rfl) ?_
        refine lv_aload_n hx hb d_LW_law_626 rfl (lv_at hl 3 rfl) ?_
        refine lv_iload_n hx hb d_LW_law_627 rfl (lv_at hl 0 rfl) ?_
        refine lv_iconst (v := nI 1) hx hb d_LW_law_628 (by decide) ?_
        refine lv_iadd hx hb d_LW_law_629 ?_
        refine mt_ri (y := nI (i + 1)) (nI_add _ _) ?_
        refine va_sld hx hb hX hbl hbA hS (vp_in_nI (by omega) (by omega)) d_LW_law_630 ?_
        refine mt_ri (y := xs (i + 1)) (by rw [nI_clamp (by omega)]) ?_
        refine lx_cwL (w1 := cW g ad so sw I n v us ct) (w2 := mW g md J n v kn pr ar X) (va_runV (own := R_law) (As := [.int (xs (i + 1))]) (rest := []) ⟨hx, hb, hml, hown, hts⟩ (c_MT_sorts (l := l) (g := g) (ad := ad) (so := so) (sw := sw) (I := I) (n := n) (v := v) (us := us) (ct := ct) (x := xs (i + 1)) hC) (cwV 1 hts (gx_goodV wd_362 wd_363 wd_364 wd_1 wd_365) rfl rfl rfl (by decide +kernel) ⟨Nat.le_of_ble_eq_true rfl, Nat.le_of_ble_eq_true rfl⟩) (gc_preVW (gc_recv (lx_PL hP) hG (ci := 4) rfl (q0 := 15) rfl) (lx_PL hP) hG (lx_DL hD)) rfl rfl hl.1 rfl (lv_room (Nat.le_of_ble_eq_true rfl)) d_LW_law_631 ⟨Nat.le_of_ble_eq_true rfl, Nat.le_of_ble_eq_true rfl⟩) hP hD hS (fun r1 u1 H locs hr1 hP hD hS => ?_)
        refine lv_aload_n hx hb d_LW_law_634 rfl (lv_at hl 1 rfl) ?_
        refine lv_aload_n hx hb d_LW_law_635 rfl (lv_at hl 3 rfl) ?_
        refine lv_iload_n hx hb d_LW_law_636 rfl (lv_at hl 0 rfl) ?_
        refine lv_iconst (v := nI 1) hx hb d_LW_law_637 (by decide) ?_
        refine lv_iadd hx hb d_LW_law_638 ?_
        refine mt_ri (y := nI (i + 1)) (nI_add _ _) ?_
        refine va_sld hx hb hX hbl hbA hS (vp_in_nI (by omega) (by omega)) d_LW_law_639 ?_
        refine mt_ri (y := xs (i + 1)) (by rw [nI_clamp (by omega)]) ?_
        have hP : va_P g.1 gx_cl (cW g ad so sw u1.1 u1.2.1 u1.2.2.1 u1.2.2.2.1 u1.2.2.2.2 ++ mW g md J n v kn pr ar X) H := hP
        have hD : va_D A (cW g ad so sw u1.1 u1.2.1 u1.2.2.1 u1.2.2.2.1 u1.2.2.2.2 ++ mW g md J n v kn pr ar X) := hD
        refine lx_cwR (w1 := cW g ad so sw u1.1 u1.2.1 u1.2.2.1 u1.2.2.2.1 u1.2.2.2.2) (w2 := mW g md J n v kn pr ar X) (va_runV (own := R_law) (As := [.int (xs (i + 1))]) (rest := [.int r1]) ⟨hx, hb, hml, hown, hts⟩ (c_MM_sorts (l := l) (g := g) (md := md) (J := J) (n := n) (v := v) (kn := kn) (pr := pr) (ar := ar) (X := X) (x := xs (i + 1)) hM) (cwV 1 hts (gx_goodV wd_596 wd_597 wd_598 wd_7 wd_599) rfl rfl rfl (by decide +kernel) ⟨Nat.le_of_ble_eq_true rfl, Nat.le_of_ble_eq_true rfl⟩) (gc_preVW (gc_recv (lx_PR hP) hG (ci := 5) rfl (q0 := 0) rfl) (lx_PR hP) hG (lx_DR hD)) rfl rfl hl.1 rfl (lv_room (Nat.le_of_ble_eq_true rfl)) d_LW_law_640 ⟨Nat.le_of_ble_eq_true rfl, Nat.le_of_ble_eq_true rfl⟩) hP hD hS (fun r2 w2 H locs hr2 hP hD hS => ?_)
        obtain ⟨hs1, hC1⟩ := hr1
        obtain ⟨hs2, hM1⟩ := hr2
        have hq1 : r1 = r2 := sp_srt_det (show v ≤ 100 by omega) hs1 hs2
        refine lv_icmp_eq (tgt := 671) hx hb d_LW_law_643 (by decide) (fun _ => ?_) (fun h9 => absurd hq1 h9)
        exact nx u1 w2 (n, tk, ta, tb, dp, fc) (v, vk, va, vb, vl) H locs hC1 hM1 hP hD hS
      · ---- case 18
        refine lv_tableIn (off := 616) (tgt := 648) hx hb d_LW_law_32 (by decide) (by decide) (by decide) (by decide) ?_
        refine lv_aload_n hx hb d_LW_law_648 rfl (lv_at hl 2 rfl) ?_
        refine lv_aload_n hx hb d_LW_law_649 rfl (lv_at hl 3 rfl) ?_
        refine lv_iload_n hx hb d_LW_law_650 rfl (lv_at hl 0 rfl) ?_
        refine lv_iconst (v := nI 1) hx hb d_LW_law_651 (by decide) ?_
        refine lv_iadd hx hb d_LW_law_652 ?_
        refine mt_ri (y := nI (i + 1)) (nI_add _ _) ?_
        refine va_sld hx hb hX hbl hbA hS (vp_in_nI (by omega) (by omega)) d_LW_law_653 ?_
        refine mt_ri (y := xs (i + 1)) (by rw [nI_clamp (by omega)]) ?_
        refine lx_cwL (w1 := cW g ad so sw I n v us ct) (w2 := mW g md J n v kn pr ar X) (va_runV (own := R_law) (As := [.int (xs (i + 1))]) (rest := []) ⟨hx, hb, hml, hown, hts⟩ (c_MT_cut (l := l) (g := g) (ad := ad) (so := so) (sw := sw) (I := I) (n := n) (v := v) (us := us) (ct := ct) (x := xs (i + 1)) hC) (cwV 1 hts (gx_goodV wd_372 wd_373 wd_374 wd_1 wd_375) rfl rfl rfl (by decide +kernel) ⟨Nat.le_of_ble_eq_true rfl, Nat.le_of_ble_eq_true rfl⟩) (gc_preVW (gc_recv (lx_PL hP) hG (ci := 4) rfl (q0 := 15) rfl) (lx_PL hP) hG (lx_DL hD)) rfl rfl hl.1 rfl (lv_room (Nat.le_of_ble_eq_true rfl)) d_LW_law_654 ⟨Nat.le_of_ble_eq_true rfl, Nat.le_of_ble_eq_true rfl⟩) hP hD hS (fun r1 u1 H locs hr1 hP hD hS => ?_)
        refine lv_aload_n hx hb d_LW_law_657 rfl (lv_at hl 1 rfl) ?_
        refine lv_aload_n hx hb d_LW_law_658 rfl (lv_at hl 3 rfl) ?_
        refine lv_iload_n hx hb d_LW_law_659 rfl (lv_at hl 0 rfl) ?_
        refine lv_iconst (v := nI 1) hx hb d_LW_law_660 (by decide) ?_
        refine lv_iadd hx hb d_LW_law_661 ?_
        refine mt_ri (y := nI (i + 1)) (nI_add _ _) ?_
        refine va_sld hx hb hX hbl hbA hS (vp_in_nI (by omega) (by omega)) d_LW_law_662 ?_
        refine mt_ri (y := xs (i + 1)) (by rw [nI_clamp (by omega)]) ?_
        have hP : va_P g.1 gx_cl (cW g ad so sw u1.1 u1.2.1 u1.2.2.1 u1.2.2.2.1 u1.2.2.2.2 ++ mW g md J n v kn pr ar X) H := hP
        have hD : va_D A (cW g ad so sw u1.1 u1.2.1 u1.2.2.1 u1.2.2.2.1 u1.2.2.2.2 ++ mW g md J n v kn pr ar X) := hD
        refine lx_cwR (w1 := cW g ad so sw u1.1 u1.2.1 u1.2.2.1 u1.2.2.2.1 u1.2.2.2.2) (w2 := mW g md J n v kn pr ar X) (va_runV (own := R_law) (As := [.int (xs (i + 1))]) (rest := [.int r1]) ⟨hx, hb, hml, hown, hts⟩ (c_MM_cut (l := l) (g := g) (md := md) (J := J) (n := n) (v := v) (kn := kn) (pr := pr) (ar := ar) (X := X) (x := xs (i + 1)) hM) (cwV 1 hts (gx_goodV wd_600 wd_601 wd_602 wd_7 wd_603) rfl rfl rfl (by decide +kernel) ⟨Nat.le_of_ble_eq_true rfl, Nat.le_of_ble_eq_true rfl⟩) (gc_preVW (gc_recv (lx_PR hP) hG (ci := 5) rfl (q0 := 0) rfl) (lx_PR hP) hG (lx_DR hD)) rfl rfl hl.1 rfl (lv_room (Nat.le_of_ble_eq_true rfl)) d_LW_law_663 ⟨Nat.le_of_ble_eq_true rfl, Nat.le_of_ble_eq_true rfl⟩) hP hD hS (fun r2 w2 H locs hr2 hP hD hS => ?_)
        obtain ⟨hs1, hC1⟩ := hr1
        obtain ⟨hs2, hM1⟩ := hr2
        have hq1 : r1 = r2 := hs1.trans hs2.symm
        refine lv_icmp_eq (tgt := 671) hx hb d_LW_law_666 (by decide) (fun _ => ?_) (fun h9 => absurd hq1 h9)
        exact nx u1 w2 (sp_cut (n, tk, ta, tb, dp, fc) (xs (i + 1))) (sp_cutV (v, vk, va, vb, vl)) H locs hC1 hM1 hP hD hS
      · ---- case 19
        refine lv_tableOut (tgt := 671) hx hb d_LW_law_32 (by decide) (by decide) ?_
        exact nx (I, n, v, us, ct) (J, n, v, kn, pr, ar, X) (n, tk, ta, tb, dp, fc) (v, vk, va, vb, vl) H locs hC hM hP hD hS
      · ---- case 20
        refine lv_tableOut (tgt := 671) hx hb d_LW_law_32 (by decide) (by decide) ?_
        exact nx (I, n, v, us, ct) (J, n, v, kn, pr, ar, X) (n, tk, ta, tb, dp, fc) (v, vk, va, vb, vl) H locs hC hM hP hD hS
      · ---- case 21
        refine lv_tableOut (tgt := 671) hx hb d_LW_law_32 (by decide) (by decide) ?_
        exact nx (I, n, v, us, ct) (J, n, v, kn, pr, ar, X) (n, tk, ta, tb, dp, fc) (v, vk, va, vb, vl) H locs hC hM hP hD hS
      · ---- case 22
        refine lv_tableOut (tgt := 671) hx hb d_LW_law_32 (by decide) (by decide) ?_
        exact nx (I, n, v, us, ct) (J, n, v, kn, pr, ar, X) (n, tk, ta, tb, dp, fc) (v, vk, va, vb, vl) H locs hC hM hP hD hS
      · ---- case 23
        refine lv_tableOut (tgt := 671) hx hb d_LW_law_32 (by decide) (by decide) ?_
        exact nx (I, n, v, us, ct) (J, n, v, kn, pr, ar, X) (n, tk, ta, tb, dp, fc) (v, vk, va, vb, vl) H locs hC hM hP hD hS
      · ---- case 24
        refine lv_tableOut (tgt := 671) hx hb d_LW_law_32 (by decide) (by decide) ?_
        exact nx (I, n, v, us, ct) (J, n, v, kn, pr, ar, X) (n, tk, ta, tb, dp, fc) (v, vk, va, vb, vl) H locs hC hM hP hD hS
      · ---- case 25
        refine lv_tableOut (tgt := 671) hx hb d_LW_law_32 (by decide) (by decide) ?_
        exact nx (I, n, v, us, ct) (J, n, v, kn, pr, ar, X) (n, tk, ta, tb, dp, fc) (v, vk, va, vb, vl) H locs hC hM hP hD hS
      · ---- case 26
        refine lv_tableOut (tgt := 671) hx hb d_LW_law_32 (by decide) (by decide) ?_
        exact nx (I, n, v, us, ct) (J, n, v, kn, pr, ar, X) (n, tk, ta, tb, dp, fc) (v, vk, va, vb, vl) H locs hC hM hP hD hS
      · ---- case 27
        refine lv_tableOut (tgt := 671) hx hb d_LW_law_32 (by decide) (by decide) ?_
        exact nx (I, n, v, us, ct) (J, n, v, kn, pr, ar, X) (n, tk, ta, tb, dp, fc) (v, vk, va, vb, vl) H locs hC hM hP hD hS
      · ---- case 28
        refine lv_tableOut (tgt := 671) hx hb d_LW_law_32 (by decide) (by decide) ?_
        exact nx (I, n, v, us, ct) (J, n, v, kn, pr, ar, X) (n, tk, ta, tb, dp, fc) (v, vk, va, vb, vl) H locs hC hM hP hD hS
      · ---- case 29
        refine lv_tableOut (tgt := 671) hx hb d_LW_law_32 (by decide) (by decide) ?_
        exact nx (I, n, v, us, ct) (J, n, v, kn, pr, ar, X) (n, tk, ta, tb, dp, fc) (v, vk, va, vb, vl) H locs hC hM hP hD hS
      · ---- case 30
        refine lv_tableOut (tgt := 671) hx hb d_LW_law_32 (by decide) (by decide) ?_
        exact nx (I, n, v, us, ct) (J, n, v, kn, pr, ar, X) (n, tk, ta, tb, dp, fc) (v, vk, va, vb, vl) H locs hC hM hP hD hS
      · ---- case 31
        refine lv_tableOut (tgt := 671) hx hb d_LW_law_32 (by decide) (by decide) ?_
        exact nx (I, n, v, us, ct) (J, n, v, kn, pr, ar, X) (n, tk, ta, tb, dp, fc) (v, vk, va, vb, vl) H locs hC hM hP hD hS
  exact lp _ 0 ls H locs rfl (Nat.zero_le _) (lv_sub hl [0, 1, 2, 3] rfl) ⟨(fun _ _ => 0, 0, 0, va_up (fun _ => 0) 0 1, va_up (fun _ _ => 0) 0 f0), (fun _ _ => 0, 0, 0, 0, 0, 0, fun _ => 0), (0, fun _ => 0, fun _ => 0, fun _ => 0, fun _ => 0, fun _ => false), (0, fun _ => 0, fun _ => 0, fun _ => 0, fun _ => 0), mt_CR_0 hel, mt_MR_0, hP, hD, hS⟩
