set_option maxHeartbeats 4000000 in
set_option maxRecDepth 100000 in
theorem c_MT_answers {g : gG} {ad so sw : Nat → Nat} {I : Nat → Nat → Int32} {n v : Nat} {us : Nat → Nat} {ct : Nat → Nat → Int64}{k a b : Nat → Nat} {dp : Nat → Nat} {fc : Nat → Bool} {vk va vb vl : Nat → Nat} {x y o : Int32} {l : Launch} (hC : mt_CR (I, n, v, us, ct) (n, k, a, b, dp, fc) (v, vk, va, vb, vl))  :
    gc_RW (S := gST) l y_MT_answers (gx_ws y_MT_answers b_MT_answers 6 (some .boolean)) 6 142 g [.ref (ad 15), .int x, .int y, .int o] (cW g ad so sw I n v us ct) (fun (u : gST) => cW g ad so sw u.1 u.2.1 u.2.2.1 u.2.2.2.1 u.2.2.2.2) (fun r (u : gST) => sp_ans (n, k, a, b, dp, fc) x y o r ∧ mt_CR u (n, k, a, b, dp, fc) (v, vk, va, vb, vl)) := by
  refine gx_body (by decide) (Nat.le_of_ble_eq_true rfl) ?_
  intro p e s m below meth c ls hAt hB hl
  obtain ⟨hx, hb, hml, hown, hts, hr, hlk, hnm⟩ := hAt
  have hown : s.vm.findClass R_MT = some m.cls := hown
  obtain ⟨⟨hP, hG⟩, hD0⟩ := hB
  have hD := gx_D.self hD0
  have hS : va_S (gx_in (cW g ad so sw I n v us ct)) s.heap s.heap [] := va_S.rf
  have hl : lv_has ls 6 [(0, .ref (ad 15)), (1, .int x), (2, .int y), (3, .int o)] := hl
  have hC0 := hC
  obtain ⟨-, -, hn12, hT, hE, hw, hdp, hR, hv20, hV, hvw⟩ := hC0
  have hn : n ≤ 13 := by omega
  have hRn := hR n (Nat.le_refl n)
  have hun := hRn.1
  refine lv_aload_n hx hb d_MT_answers_0 rfl (lv_at hl 0 rfl) ?_
  refine lv_iload_n hx hb d_MT_answers_1 rfl (lv_at hl 1 rfl) ?_
  refine vp_callSi (va_runV (own := R_MT) (As := [.int x]) (rest := []) ⟨hx, hb, hml, hown, hts⟩ (c_MT_hasType (l := l) (g := g) (ad := ad) (so := so) (sw := sw) (I := I) (n := n) (v := v) (us := us) (ct := ct) (x := x) (by omega)) (cwV 1 hts (gx_goodV wd_252 wd_254 ws_9 wd_1 wd_255) rfl rfl rfl (by decide +kernel) ⟨Nat.le_of_ble_eq_true rfl, Nat.le_of_ble_eq_true rfl⟩) (gc_preV (gc_recv hP hG (ci := 4) rfl (q0 := 15) rfl) hP hG) rfl rfl hl.1 rfl (lv_room (Nat.le_of_ble_eq_true rfl)) d_MT_answers_2 ⟨Nat.le_refl _, Nat.le_refl _⟩).run (fun r hr2 => ?_)
  obtain ⟨z2, hq2, hz2⟩ := hr2
  subst hq2
  refine lv_if_eq (tgt := 24) hx hb d_MT_answers_5 (by decide) (mt_z fun hc5 => ?_) (mt_nz fun hc5 => ?_)
  · ---- 5T
    refine lv_iconst (v := nI 0) hx hb d_MT_answers_24 (by decide) ?_
    exact gc_retwz (u := (I, n, v, us, ct)) (v := false) (Wf := fun (u : gST) => cW g ad so sw u.1 u.2.1 u.2.2.1 u.2.2.2.1 u.2.2.2.2) (post := fun r (u : gST) => sp_ans (n, k, a, b, dp, fc) x y o r ∧ mt_CR u (n, k, a, b, dp, fc) (v, vk, va, vb, vl)) hx hb hr hlk (⟨⟨false, rfl, (fun h => by cases h), (fun ⟨i9, _, _, h1, _⟩ => absurd (hz2.mpr ⟨i9, h1⟩) (by rw [hc5]; decide))⟩, hC⟩) hP hD hS d_MT_answers_25
  · ---- 5F
    obtain ⟨i, hxi_i⟩ := hz2.mp hc5
    have hlt_i := hxi_i.1
    have hp2_i : 2 ^ i ≤ 2 ^ 20 := Nat.pow_le_pow_right (n := 2) (i := i) (j := 20) (by decide) (by omega)
    have hq2_i : 2 ^ i ≤ 2 ^ 12 := Nat.pow_le_pow_right (n := 2) (i := i) (j := 12) (by decide) (by omega)
    refine lv_aload_n hx hb d_MT_answers_8 rfl (lv_at hl 0 rfl) ?_
    refine lv_iload_n hx hb d_MT_answers_9 rfl (lv_at hl 2 rfl) ?_
    refine vp_callSi (va_runV (own := R_MT) (As := [.int y]) (rest := []) ⟨hx, hb, hml, hown, hts⟩ (c_MT_hasType (l := l) (g := g) (ad := ad) (so := so) (sw := sw) (I := I) (n := n) (v := v) (us := us) (ct := ct) (x := y) (by omega)) (cwV 1 hts (gx_goodV wd_252 wd_254 ws_9 wd_1 wd_255) rfl rfl rfl (by decide +kernel) ⟨Nat.le_of_ble_eq_true rfl, Nat.le_of_ble_eq_true rfl⟩) (gc_preV (gc_recv hP hG (ci := 4) rfl (q0 := 15) rfl) hP hG) rfl rfl hl.1 rfl (lv_room (Nat.le_of_ble_eq_true rfl)) d_MT_answers_10 ⟨Nat.le_refl _, Nat.le_refl _⟩).run (fun r hr10 => ?_)
    obtain ⟨z10, hq10, hz10⟩ := hr10
    subst hq10
    refine lv_if_eq (tgt := 24) hx hb d_MT_answers_13 (by decide) (mt_z fun hc13 => ?_) (mt_nz fun hc13 => ?_)
    · ---- 5F 13T
      refine lv_iconst (v := nI 0) hx hb d_MT_answers_24 (by decide) ?_
      exact gc_retwz (u := (I, n, v, us, ct)) (v := false) (Wf := fun (u : gST) => cW g ad so sw u.1 u.2.1 u.2.2.1 u.2.2.2.1 u.2.2.2.2) (post := fun r (u : gST) => sp_ans (n, k, a, b, dp, fc) x y o r ∧ mt_CR u (n, k, a, b, dp, fc) (v, vk, va, vb, vl)) hx hb hr hlk (⟨⟨false, rfl, (fun h => by cases h), (fun ⟨_, j9, _, _, h1, _⟩ => absurd (hz10.mpr ⟨j9, h1⟩) (by rw [hc13]; decide))⟩, hC⟩) hP hD hS d_MT_answers_25
    · ---- 5F 13F
      obtain ⟨j, hxi_j⟩ := hz10.mp hc13
      have hlt_j := hxi_j.1
      have hp2_j : 2 ^ j ≤ 2 ^ 20 := Nat.pow_le_pow_right (n := 2) (i := j) (j := 20) (by decide) (by omega)
      have hq2_j : 2 ^ j ≤ 2 ^ 12 := Nat.pow_le_pow_right (n := 2) (i := j) (j := 12) (by decide) (by omega)
      refine lv_aload_n hx hb d_MT_answers_16 rfl (lv_at hl 0 rfl) ?_
      refine lv_iload_n hx hb d_MT_answers_17 rfl (lv_at hl 3 rfl) ?_
      refine vp_callSi (va_runV (own := R_MT) (As := [.int o]) (rest := []) ⟨hx, hb, hml, hown, hts⟩ (c_MT_hasType (l := l) (g := g) (ad := ad) (so := so) (sw := sw) (I := I) (n := n) (v := v) (us := us) (ct := ct) (x := o) (by omega)) (cwV 1 hts (gx_goodV wd_252 wd_254 ws_9 wd_1 wd_255) rfl rfl rfl (by decide +kernel) ⟨Nat.le_of_ble_eq_true rfl, Nat.le_of_ble_eq_true rfl⟩) (gc_preV (gc_recv hP hG (ci := 4) rfl (q0 := 15) rfl) hP hG) rfl rfl hl.1 rfl (lv_room (Nat.le_of_ble_eq_true rfl)) d_MT_answers_18 ⟨Nat.le_refl _, Nat.le_refl _⟩).run (fun r hr18 => ?_)
      obtain ⟨z18, hq18, hz18⟩ := hr18
      subst hq18
      refine lv_if_ne (tgt := 26) hx hb d_MT_answers_21 (by decide) (mt_nz fun hc21 => ?_) (mt_z fun hc21 => ?_)
      · ---- 5F 13F 21T
        obtain ⟨h, hxi_h⟩ := hz18.mp hc21
        have hlt_h := hxi_h.1
        have hp2_h : 2 ^ h ≤ 2 ^ 20 := Nat.pow_le_pow_right (n := 2) (i := h) (j := 20) (by decide) (by omega)
        have hq2_h : 2 ^ h ≤ 2 ^ 12 := Nat.pow_le_pow_right (n := 2) (i := h) (j := 12) (by decide) (by omega)
        refine lv_aload_n hx hb d_MT_answers_26 rfl (lv_at hl 0 rfl) ?_
        refine va_get (D := g.1) (own := R_MT) (ref := R_MT) (ci := 4) (v := .ref (ad 0)) (C := R_MT) (T := F_MT) (N := 2) hx hb hts in_MT hown hG.1 hP 15 rfl rfl 0 (by decide) (hts _ wd_147) (fun _ h9 => h9) rfl d_MT_answers_27 ?_
        refine va_getN (D := g.1) (own := R_MT) (ref := R_MG) (ci := 2) (v := .ref (ad 1)) (C := R_MG) (T := F_MG) (N := 6) hx hb hts in_MG hown hG.1 hP 0 rfl rfl 0 (by decide) (va_Nw.use rfl (hG.2.1 _ nw_10)) (fun _ h9 => h9) rfl d_MT_answers_30 ?_
        refine lv_iconst (v := nI 2) hx hb d_MT_answers_33 (by decide) ?_
        refine lv_iload_n hx hb d_MT_answers_34 rfl (lv_at hl 2 rfl) ?_
        refine mt_ri (y := nI j) hxi_j.2 ?_
        refine lv_iload_n hx hb d_MT_answers_35 rfl (lv_at hl 3 rfl) ?_
        refine mt_ri (y := nI h) hxi_h.2 ?_
        refine vp_callSi (va_runV (own := R_MT) (As := [.int (nI 2), .int (nI j), .int (nI h)]) (rest := []) ⟨hx, hb, hml, hown, hts⟩ (c_TT_depthOf (l := l) (g := g) (ad := ad) (so := so) (sw := sw) (I := I) (n := n) (v := v) (us := us) (ct := ct) (dp := dp) (fc := fc) (kk := 2) (x := j) (y := h) hE hn hdp (by omega) (fun _ _ => ⟨by omega, by omega⟩)) (cwV 3 hts (gx_goodV wd_256 wd_171 wd_172 wd_3 wd_173) rfl rfl rfl (by decide +kernel) ⟨Nat.le_of_ble_eq_true rfl, Nat.le_of_ble_eq_true rfl⟩) (gc_preV (gc_recv hP hG (ci := 1) rfl (q0 := 1) rfl) hP hG) rfl rfl hl.1 rfl (lv_room (Nat.le_of_ble_eq_true rfl)) d_MT_answers_36 ⟨Nat.le_refl _, Nat.le_refl _⟩).run (fun r hr36 => ?_)
        subst hr36
        refine lv_iconst (v := nI 5) hx hb d_MT_answers_39 (by decide) ?_
        refine lv_icmp_le (tgt := 45) hx hb d_MT_answers_40 (by decide) (mt_le (by have h7 := hdp j hlt_j; have h8 := hdp h hlt_h; have h9 : mt_dd 2 (dp j) (dp h) ≤ 6 := mt_dd_le h7 h8; omega) (by omega) fun hc40 => ?_) (mt_nle (by have h7 := hdp j hlt_j; have h8 := hdp h hlt_h; have h9 : mt_dd 2 (dp j) (dp h) ≤ 6 := mt_dd_le h7 h8; omega) (by omega) fun hc40 => ?_)
        · ---- 5F 13F 21T 40T
          refine lv_aload_n hx hb d_MT_answers_45 rfl (lv_at hl 0 rfl) ?_
          refine va_get (D := g.1) (own := R_MT) (ref := R_MT) (ci := 4) (v := .ref (ad 0)) (C := R_MT) (T := F_MT) (N := 2) hx hb hts in_MT hown hG.1 hP 15 rfl rfl 0 (by decide) (hts _ wd_147) (fun _ h9 => h9) rfl d_MT_answers_46 ?_
          refine lv_iconst (v := nI 2) hx hb d_MT_answers_49 (by decide) ?_
          refine lv_iload_n hx hb d_MT_answers_50 rfl (lv_at hl 2 rfl) ?_
          refine mt_ri (y := nI j) hxi_j.2 ?_
          refine lv_iload_n hx hb d_MT_answers_51 rfl (lv_at hl 3 rfl) ?_
          refine mt_ri (y := nI h) hxi_h.2 ?_
          have hw9 : mt_wf (va_up k n 2) (va_up a n j) (va_up b n h) (n + 1) := mt_wf_add hw (by omega) (fun _ _ => ⟨hlt_j, hlt_h⟩) (by omega) (by omega)
          refine gc_cwi (va_runV (own := R_MT) (As := [.int (nI 2), .int (nI j), .int (nI h)]) (rest := []) ⟨hx, hb, hml, hown, hts⟩ (c_MG_add (l := l) (g := g) (ad := ad) (so := so) (sw := sw) (I := I) (n := n) (v := v) (us := us) (ct := ct) (k := (va_up k n 2)) (a := (va_up a n j)) (b := (va_up b n h)) (dp := dp) (fc := fc) (kk := 2) (x := j) (y := h) (mt_TR_up hT) hE hn12 hdp (by omega) (fun _ _ => ⟨hlt_j, hlt_h⟩) hw9 (va_up_self _ _ _) (va_up_self _ _ _) (fun _ => va_up_self _ _ _) (mt_RW_up hR hw)) (cwV 3 hts (gx_goodV wd_162 wd_163 wd_164 wd_2 wd_165) rfl rfl rfl (by decide +kernel) ⟨Nat.le_of_ble_eq_true rfl, Nat.le_of_ble_eq_true rfl⟩) (gc_preVW (gc_recv hP hG (ci := 2) rfl (q0 := 0) rfl) hP hG hD) rfl rfl hl.1 rfl (lv_room (Nat.le_of_ble_eq_true rfl)) d_MT_answers_52 ⟨Nat.le_refl _, Nat.le_refl _⟩) hD hS (fun r9 u9 H locs hr9 hP hD hS => ?_)
          obtain ⟨J, us9, ct9⟩ := u9
          dsimp only at hP hD hr9
          obtain ⟨hr8, hJ, hR9⟩ := hr9
          subst hr8
          have hP : va_P g.1 gx_cl (cW g ad so sw J (n + 1) v us9 ct9) H := hP
          have hD : va_D (gx_in (cW g ad so sw I n v us ct)) (cW g ad so sw J (n + 1) v us9 ct9) := hD
          refine lv_istore (lv' := [(4, .int (nI n)), (0, .ref (ad 15)), (1, .int x), (2, .int y), (3, .int o)]) hx hb d_MT_answers_55 hl (by decide) rfl (fun ls hl => ?_)
          refine lv_aload_n hx hb d_MT_answers_57 rfl (lv_at hl 1 rfl) ?_
          refine va_get (D := g.1) (own := R_MT) (ref := R_MT) (ci := 4) (v := .ref (ad 0)) (C := R_MT) (T := F_MT) (N := 2) hx hb hts in_MT hown hG.1 hP 15 rfl rfl 0 (by decide) (hts _ wd_147) (fun _ h9 => h9) rfl d_MT_answers_58 ?_
          refine lv_iload_n hx hb d_MT_answers_61 rfl (lv_at hl 2 rfl) ?_
          refine mt_ri (y := nI i) hxi_i.2 ?_
          refine lv_iload hx hb d_MT_answers_62 (lv_at hl 0 rfl) ?_
          refine vp_callSi (va_runV (own := R_MT) (As := [.int (nI i), .int (nI n)]) (rest := []) ⟨hx, hb, hml, hown, hts⟩ (c_MG_liesIn (l := l) (g := g) (ad := ad) (so := so) (sw := sw) (I := J) (n := (n + 1)) (v := v) (us := us9) (ct := ct9) (x := i) (y := n) (by omega) (by exact (hR9 (n + 1) (Nat.le_refl _)).1) (by omega) (by omega)) (cwV 2 hts (gx_goodV wd_293 wd_294 wd_295 wd_2 wd_296) rfl rfl rfl (by decide +kernel) ⟨Nat.le_of_ble_eq_true rfl, Nat.le_of_ble_eq_true rfl⟩) (gc_preV (gc_recv hP hG (ci := 2) rfl (q0 := 0) rfl) hP hG) rfl rfl hl.1 rfl (lv_room (Nat.le_of_ble_eq_true rfl)) d_MT_answers_64 ⟨Nat.le_refl _, Nat.le_refl _⟩).run (fun r hr64 => ?_)
          obtain ⟨z64, hq64, hz64⟩ := hr64
          subst hq64
          refine lv_istore (lv' := [(5, .int (mt_b z64)), (4, .int (nI n)), (0, .ref (ad 15)), (1, .int x), (2, .int y), (3, .int o)]) hx hb d_MT_answers_67 hl (by decide) rfl (fun ls hl => ?_)
          refine lv_aload_n hx hb d_MT_answers_69 rfl (lv_at hl 2 rfl) ?_
          refine va_get (D := g.1) (own := R_MT) (ref := R_MT) (ci := 4) (v := .ref (ad 0)) (C := R_MT) (T := F_MT) (N := 2) hx hb hts in_MT hown hG.1 hP 15 rfl rfl 0 (by decide) (hts _ wd_147) (fun _ h9 => h9) rfl d_MT_answers_70 ?_
          refine va_getN (D := g.1) (own := R_MT) (ref := R_MG) (ci := 2) (v := .ref (ad 1)) (C := R_MG) (T := F_MG) (N := 6) hx hb hts in_MG hown hG.1 hP 0 rfl rfl 0 (by decide) (va_Nw.use rfl (hG.2.1 _ nw_10)) (fun _ h9 => h9) rfl d_MT_answers_73 ?_
          refine lv_iload hx hb d_MT_answers_76 (lv_at hl 1 rfl) ?_
          refine gc_cwv (va_runV (own := R_MT) (As := [.int (nI n)]) (rest := []) ⟨hx, hb, hml, hown, hts⟩ (c_TT_keep (l := l) (g := g) (ad := ad) (so := so) (sw := sw) (I := J) (n := (n + 1)) (v := v) (us := us9) (ct := ct9) (x := n) (by omega) (by omega)) (cwV 1 hts (gx_goodV wd_306 wd_307 wd_308 wd_3 wd_309) rfl rfl rfl (by decide +kernel) ⟨Nat.le_of_ble_eq_true rfl, Nat.le_of_ble_eq_true rfl⟩) (gc_preVW (gc_recv hP hG (ci := 1) rfl (q0 := 1) rfl) hP hG hD) rfl rfl hl.1 rfl (lv_room (Nat.le_of_ble_eq_true rfl)) d_MT_answers_78 ⟨Nat.le_refl _, Nat.le_refl _⟩) hD hS (fun u78 H locs hu78 hP hD hS => ?_)
          rw [show min (n + 1) n = n from Nat.min_eq_right (by omega)] at hP hD
          have hP : va_P g.1 gx_cl (cW g ad so sw J n v us9 ct9) H := hP
          have hD : va_D (gx_in (cW g ad so sw I n v us ct)) (cW g ad so sw J n v us9 ct9) := hD
          refine lv_iload hx hb d_MT_answers_81 (lv_at hl 0 rfl) ?_
          exact gc_retwz (u := (J, n, v, us9, ct9)) (v := z64) (Wf := fun (u : gST) => cW g ad so sw u.1 u.2.1 u.2.2.1 u.2.2.2.1 u.2.2.2.2) (post := fun r (u : gST) => sp_ans (n, k, a, b, dp, fc) x y o r ∧ mt_CR u (n, k, a, b, dp, fc) (v, vk, va, vb, vl)) hx hb hr hlk (⟨⟨z64, rfl, (fun h9 => ⟨i, j, h, hxi_i, hxi_j, hxi_h, hc40, (hz64.trans (mt_in_of (hR9 (n + 1) (Nat.le_refl _)).2)).mp h9⟩), (fun ⟨i9, j9, h8, h1, h2, h3, _, h4⟩ => by have e0 := sp_is_inj (show n ≤ 100 by omega) h1 hxi_i; have e1 := sp_is_inj (show n ≤ 100 by omega) h2 hxi_j; have e2 := sp_is_inj (show n ≤ 100 by omega) h3 hxi_h; subst e0; subst e1; subst e2; exact (hz64.trans (mt_in_of (hR9 (n + 1) (Nat.le_refl _)).2)).mpr h4)⟩, mt_CR_ans hC hJ hR9⟩) hP hD hS d_MT_answers_83
        · ---- 5F 13F 21T 40F
          refine lv_iconst (v := nI 0) hx hb d_MT_answers_43 (by decide) ?_
          exact gc_retwz (u := (I, n, v, us, ct)) (v := false) (Wf := fun (u : gST) => cW g ad so sw u.1 u.2.1 u.2.2.1 u.2.2.2.1 u.2.2.2.2) (post := fun r (u : gST) => sp_ans (n, k, a, b, dp, fc) x y o r ∧ mt_CR u (n, k, a, b, dp, fc) (v, vk, va, vb, vl)) hx hb hr hlk (⟨⟨false, rfl, (fun h => by cases h), (fun ⟨i9, j9, h8, h1, h2, h3, h4, _⟩ => by have e1 := sp_is_inj (show n ≤ 100 by omega) h2 hxi_j; have e2 := sp_is_inj (show n ≤ 100 by omega) h3 hxi_h; subst e1; subst e2; exact absurd h4 (Nat.not_le.mpr hc40))⟩, hC⟩) hP hD hS d_MT_answers_44
      · ---- 5F 13F 21F
        refine lv_iconst (v := nI 0) hx hb d_MT_answers_24 (by decide) ?_
        exact gc_retwz (u := (I, n, v, us, ct)) (v := false) (Wf := fun (u : gST) => cW g ad so sw u.1 u.2.1 u.2.2.1 u.2.2.2.1 u.2.2.2.2) (post := fun r (u : gST) => sp_ans (n, k, a, b, dp, fc) x y o r ∧ mt_CR u (n, k, a, b, dp, fc) (v, vk, va, vb, vl)) hx hb hr hlk (⟨⟨false, rfl, (fun h => by cases h), (fun ⟨_, _, h8, _, _, h1, _⟩ => absurd (hz18.mpr ⟨h8, h1⟩) (by rw [hc21]; decide))⟩, hC⟩) hP hD hS d_MT_answers_25

set_option maxHeartbeats 4000000 in
set_option maxRecDepth 100000 in
theorem c_MT_belongs {g : gG} {ad so sw : Nat → Nat} {I : Nat → Nat → Int32} {n v : Nat} {us : Nat → Nat} {ct : Nat → Nat → Int64}{k a b : Nat → Nat} {dp : Nat → Nat} {fc : Nat → Bool} {vk va vb vl : Nat → Nat} {x y : Int32} {l : Launch} (hC : mt_CR (I, n, v, us, ct) (n, k, a, b, dp, fc) (v, vk, va, vb, vl))  :
    gc_RW (S := gST) l y_MT_belongs (gx_ws y_MT_belongs b_MT_belongs 3 (some .boolean)) 9 209 g [.ref (ad 15), .int x, .int y] (cW g ad so sw I n v us ct) (fun (u : gST) => cW g ad so sw u.1 u.2.1 u.2.2.1 u.2.2.2.1 u.2.2.2.2) (fun r (u : gST) => sp_blg (n, k, a, b, dp, fc) (v, vk, va, vb, vl) x y r ∧ mt_CR u (n, k, a, b, dp, fc) (v, vk, va, vb, vl)) := by
  refine gx_body (by decide) (Nat.le_of_ble_eq_true rfl) ?_
  intro p e s m below meth c ls hAt hB hl
  obtain ⟨hx, hb, hml, hown, hts, hr, hlk, hnm⟩ := hAt
  have hown : s.vm.findClass R_MT = some m.cls := hown
  obtain ⟨⟨hP, hG⟩, hD0⟩ := hB
  have hD := gx_D.self hD0
  have hS : va_S (gx_in (cW g ad so sw I n v us ct)) s.heap s.heap [] := va_S.rf
  have hl : lv_has ls 3 [(0, .ref (ad 15)), (1, .int x), (2, .int y)] := hl
  have hC0 := hC
  obtain ⟨-, -, hn12, hT, hE, hw, hdp, hR, hv20, hV, hvw⟩ := hC0
  have hn : n ≤ 13 := by omega
  have hRn := hR n (Nat.le_refl n)
  have hun := hRn.1
  refine lv_aload_n hx hb d_MT_belongs_0 rfl (lv_at hl 0 rfl) ?_
  refine va_get (D := g.1) (own := R_MT) (ref := R_MT) (ci := 4) (v := .ref (ad 8)) (C := R_MT) (T := F_MT) (N := 2) hx hb hts in_MT hown hG.1 hP 15 rfl rfl 1 (by decide) (hts _ wd_148) (fun _ h9 => h9) rfl d_MT_belongs_1 ?_
  refine lv_iload_n hx hb d_MT_belongs_4 rfl (lv_at hl 1 rfl) ?_
  refine vp_callSi (va_runV (own := R_MT) (As := [.int x]) (rest := []) ⟨hx, hb, hml, hown, hts⟩ (c_VT_has (l := l) (g := g) (ad := ad) (so := so) (sw := sw) (I := I) (n := n) (v := v) (us := us) (ct := ct) (x := x) (by omega)) (cwV 1 hts (gx_goodV wd_327 wd_328 wd_329 wd_6 wd_330) rfl rfl rfl (by decide +kernel) ⟨Nat.le_of_ble_eq_true rfl, Nat.le_of_ble_eq_true rfl⟩) (gc_preV (gc_recv hP hG (ci := 3) rfl (q0 := 8) rfl) hP hG) rfl rfl hl.1 rfl (lv_room (Nat.le_of_ble_eq_true rfl)) d_MT_belongs_5 ⟨Nat.le_refl _, Nat.le_refl _⟩).run (fun r hr5 => ?_)
  obtain ⟨z5, hq5, hz5⟩ := hr5
  subst hq5
  refine lv_if_eq (tgt := 42) hx hb d_MT_belongs_8 (by decide) (mt_z fun hc8 => ?_) (mt_nz fun hc8 => ?_)
  · ---- 8T
    refine lv_iconst (v := nI 0) hx hb d_MT_belongs_42 (by decide) ?_
    exact gc_retwz (u := (I, n, v, us, ct)) (v := false) (Wf := fun (u : gST) => cW g ad so sw u.1 u.2.1 u.2.2.1 u.2.2.2.1 u.2.2.2.2) (post := fun r (u : gST) => sp_blg (n, k, a, b, dp, fc) (v, vk, va, vb, vl) x y r ∧ mt_CR u (n, k, a, b, dp, fc) (v, vk, va, vb, vl)) hx hb hr hlk (⟨⟨false, rfl, (fun h => by cases h), (fun ⟨i9, _, h1, _⟩ => absurd (hz5.mpr ⟨i9, h1⟩) (by rw [hc8]; decide))⟩, hC⟩) hP hD hS d_MT_belongs_43
  · ---- 8F
    obtain ⟨i, hxi_i⟩ := hz5.mp hc8
    have hlt_i := hxi_i.1
    have hp2_i : 2 ^ i ≤ 2 ^ 20 := Nat.pow_le_pow_right (n := 2) (i := i) (j := 20) (by decide) (by omega)
    refine lv_aload_n hx hb d_MT_belongs_11 rfl (lv_at hl 0 rfl) ?_
    refine lv_iload_n hx hb d_MT_belongs_12 rfl (lv_at hl 2 rfl) ?_
    refine vp_callSi (va_runV (own := R_MT) (As := [.int y]) (rest := []) ⟨hx, hb, hml, hown, hts⟩ (c_MT_hasType (l := l) (g := g) (ad := ad) (so := so) (sw := sw) (I := I) (n := n) (v := v) (us := us) (ct := ct) (x := y) (by omega)) (cwV 1 hts (gx_goodV wd_252 wd_254 ws_9 wd_1 wd_255) rfl rfl rfl (by decide +kernel) ⟨Nat.le_of_ble_eq_true rfl, Nat.le_of_ble_eq_true rfl⟩) (gc_preV (gc_recv hP hG (ci := 4) rfl (q0 := 15) rfl) hP hG) rfl rfl hl.1 rfl (lv_room (Nat.le_of_ble_eq_true rfl)) d_MT_belongs_13 ⟨Nat.le_refl _, Nat.le_refl _⟩).run (fun r hr13 => ?_)
    obtain ⟨z13, hq13, hz13⟩ := hr13
    subst hq13
    refine lv_if_eq (tgt := 42) hx hb d_MT_belongs_16 (by decide) (mt_z fun hc16 => ?_) (mt_nz fun hc16 => ?_)
    · ---- 8F 16T
      refine lv_iconst (v := nI 0) hx hb d_MT_belongs_42 (by decide) ?_
      exact gc_retwz (u := (I, n, v, us, ct)) (v := false) (Wf := fun (u : gST) => cW g ad so sw u.1 u.2.1 u.2.2.1 u.2.2.2.1 u.2.2.2.2) (post := fun r (u : gST) => sp_blg (n, k, a, b, dp, fc) (v, vk, va, vb, vl) x y r ∧ mt_CR u (n, k, a, b, dp, fc) (v, vk, va, vb, vl)) hx hb hr hlk (⟨⟨false, rfl, (fun h => by cases h), (fun ⟨_, j9, _, h1, _⟩ => absurd (hz13.mpr ⟨j9, h1⟩) (by rw [hc16]; decide))⟩, hC⟩) hP hD hS d_MT_belongs_43
    · ---- 8F 16F
      obtain ⟨j, hxi_j⟩ := hz13.mp hc16
      have hlt_j := hxi_j.1
      have hp2_j : 2 ^ j ≤ 2 ^ 20 := Nat.pow_le_pow_right (n := 2) (i := j) (j := 20) (by decide) (by omega)
      have hq2_j : 2 ^ j ≤ 2 ^ 12 := Nat.pow_le_pow_right (n := 2) (i := j) (j := 12) (by decide) (by omega)
      refine lv_aload_n hx hb d_MT_belongs_19 rfl (lv_at hl 0 rfl) ?_
      refine va_get (D := g.1) (own := R_MT) (ref := R_MT) (ci := 4) (v := .ref (ad 8)) (C := R_MT) (T := F_MT) (N := 2) hx hb hts in_MT hown hG.1 hP 15 rfl rfl 1 (by decide) (hts _ wd_148) (fun _ h9 => h9) rfl d_MT_belongs_20 ?_
      refine lv_iload_n hx hb d_MT_belongs_23 rfl (lv_at hl 1 rfl) ?_
      refine mt_ri (y := nI i) hxi_i.2 ?_
      refine lv_aload_n hx hb d_MT_belongs_24 rfl (lv_at hl 0 rfl) ?_
      refine va_get (D := g.1) (own := R_MT) (ref := R_MT) (ci := 4) (v := .ref (ad 0)) (C := R_MT) (T := F_MT) (N := 2) hx hb hts in_MT hown hG.1 hP 15 rfl rfl 0 (by decide) (hts _ wd_147) (fun _ h9 => h9) rfl d_MT_belongs_25 ?_
      refine gc_cwi (va_runV (own := R_MT) (As := [.int (nI i), .ref (ad 0)]) (rest := []) ⟨hx, hb, hml, hown, hts⟩ (c_VT_typesOf (l := l) (g := g) (ad := ad) (so := so) (sw := sw) (I := I) (n := n) (v := v) (us := us) (ct := ct) (k := k) (a := a) (b := b) (vk := vk) (va := va) (vb := vb) (vl := vl) (x := i) hT hn12 hw hR hV hv20 hvw hlt_i) (cwV 2 hts (gx_goodV wd_339 wd_340 wd_341 wd_6 wd_342) rfl rfl rfl (by decide +kernel) ⟨Nat.le_of_ble_eq_true rfl, Nat.le_of_ble_eq_true rfl⟩) (gc_preVW (gc_recv hP hG (ci := 3) rfl (q0 := 8) rfl) hP hG hD) rfl rfl hl.1 rfl (lv_room (Nat.le_of_ble_eq_true rfl)) d_MT_belongs_28 ⟨Nat.le_refl _, Nat.le_refl _⟩) hD hS (fun r9 u9 H locs hr9 hP hD hS => ?_)
      obtain ⟨us9, ct9⟩ := u9
      dsimp only at hP hD hr9
      obtain ⟨hR9, ww, hr8, hww, hwb⟩ := hr9
      subst hr8
      have hww12 := mt_lt13 hww hn
      have hC9 := mt_CR_rw hC hR9
      have hP : va_P g.1 gx_cl (cW g ad so sw I n v us9 ct9) H := hP
      have hD : va_D (gx_in (cW g ad so sw I n v us ct)) (cW g ad so sw I n v us9 ct9) := hD
      refine lv_iload_n hx hb d_MT_belongs_31 rfl (lv_at hl 2 rfl) ?_
      refine mt_ri (y := nI j) hxi_j.2 ?_
      refine vp_callSi (va_runS (own := R_MT) (As := [.int (nI ww), .int (nI j)]) (rest := []) ⟨hx, hb, hml, hown, hts⟩ (c_MT_holds (l := l) (g := g) (pp := ww) (t := j) (by omega) (by omega)) (va_cwS 2 hts (gx_goodS wd_357 wd_186 wd_1 wd_187) rfl rfl rfl (by decide +kernel) ⟨Nat.le_of_ble_eq_true rfl, Nat.le_of_ble_eq_true rfl⟩) (gc_preS (ws := []) (fun _ _ h => by cases h) hG) rfl rfl hl.1 rfl (lv_room (Nat.le_of_ble_eq_true rfl)) d_MT_belongs_32 ⟨Nat.le_refl _, Nat.le_refl _⟩).run (fun r hr32 => ?_)
      subst hr32
      refine lv_if_eq (tgt := 42) hx hb d_MT_belongs_35 (by decide) (mt_z fun hc35 => ?_) (mt_nz fun hc35 => ?_)
      · ---- 8F 16F 35T
        refine lv_iconst (v := nI 0) hx hb d_MT_belongs_42 (by decide) ?_
        exact gc_retwz (u := (I, n, v, us9, ct9)) (v := false) (Wf := fun (u : gST) => cW g ad so sw u.1 u.2.1 u.2.2.1 u.2.2.2.1 u.2.2.2.2) (post := fun r (u : gST) => sp_blg (n, k, a, b, dp, fc) (v, vk, va, vb, vl) x y r ∧ mt_CR u (n, k, a, b, dp, fc) (v, vk, va, vb, vl)) hx hb hr hlk (⟨⟨false, rfl, (fun h => by cases h), (fun ⟨i9, j9, h1, h2, h3⟩ => by have e0 := sp_is_inj (show v ≤ 100 by omega) h1 hxi_i; have e1 := sp_is_inj (show n ≤ 100 by omega) h2 hxi_j; subst e0; subst e1; have h4 := (hwb j9).mpr ⟨hlt_j, h3⟩; rw [hc35] at h4; cases h4)⟩, hC9⟩) hP hD hS d_MT_belongs_43
      · ---- 8F 16F 35F
        refine lv_iconst (v := nI 1) hx hb d_MT_belongs_38 (by decide) ?_
        refine lv_goto (tgt := 43) hx hb d_MT_belongs_39 (by decide) ?_
        exact gc_retwz (u := (I, n, v, us9, ct9)) (v := true) (Wf := fun (u : gST) => cW g ad so sw u.1 u.2.1 u.2.2.1 u.2.2.2.1 u.2.2.2.2) (post := fun r (u : gST) => sp_blg (n, k, a, b, dp, fc) (v, vk, va, vb, vl) x y r ∧ mt_CR u (n, k, a, b, dp, fc) (v, vk, va, vb, vl)) hx hb hr hlk (⟨⟨true, rfl, (fun _ => ⟨i, j, hxi_i, hxi_j, ((hwb j).mp hc35).2⟩), (fun _ => rfl)⟩, hC9⟩) hP hD hS d_MT_belongs_43

set_option maxHeartbeats 4000000 in
set_option maxRecDepth 100000 in
theorem c_MT_match {g : gG} {ad so sw : Nat → Nat} {I : Nat → Nat → Int32} {n v : Nat} {us : Nat → Nat} {ct : Nat → Nat → Int64}{k a b : Nat → Nat} {dp : Nat → Nat} {fc : Nat → Bool} {vk va vb vl : Nat → Nat} {x y o q : Int32} {l : Launch} (hC : mt_CR (I, n, v, us, ct) (n, k, a, b, dp, fc) (v, vk, va, vb, vl))  :
    gc_RW (S := gST) l y_MT_match (gx_ws y_MT_match b_MT_match 6 (some .int)) 9 209 g [.ref (ad 15), .int x, .int y, .int o, .int q] (cW g ad so sw I n v us ct) (fun (u : gST) => cW g ad so sw u.1 u.2.1 u.2.2.1 u.2.2.2.1 u.2.2.2.2) (fun r (u : gST) => sp_mat (n, k, a, b, dp, fc) (v, vk, va, vb, vl) x y o q r ∧ mt_CR u (n, k, a, b, dp, fc) (v, vk, va, vb, vl)) := by
  refine gx_body (by decide) (Nat.le_of_ble_eq_true rfl) ?_
  intro p e s m below meth c ls hAt hB hl
  obtain ⟨hx, hb, hml, hown, hts, hr, hlk, hnm⟩ := hAt
  have hown : s.vm.findClass R_MT = some m.cls := hown
  obtain ⟨⟨hP, hG⟩, hD0⟩ := hB
  have hD := gx_D.self hD0
  have hS : va_S (gx_in (cW g ad so sw I n v us ct)) s.heap s.heap [] := va_S.rf
  have hl : lv_has ls 6 [(0, .ref (ad 15)), (1, .int x), (2, .int y), (3, .int o), (4, .int q)] := hl
  have hC0 := hC
  obtain ⟨-, -, hn12, hT, hE, hw, hdp, hR, hv20, hV, hvw⟩ := hC0
  have hn : n ≤ 13 := by omega
  have hRn := hR n (Nat.le_refl n)
  have hun := hRn.1
  refine lv_aload_n hx hb d_MT_match_0 rfl (lv_at hl 0 rfl) ?_
  refine va_get (D := g.1) (own := R_MT) (ref := R_MT) (ci := 4) (v := .ref (ad 8)) (C := R_MT) (T := F_MT) (N := 2) hx hb hts in_MT hown hG.1 hP 15 rfl rfl 1 (by decide) (hts _ wd_148) (fun _ h9 => h9) rfl d_MT_match_1 ?_
  refine lv_iload_n hx hb d_MT_match_4 rfl (lv_at hl 1 rfl) ?_
  refine vp_callSi (va_runV (own := R_MT) (As := [.int x]) (rest := []) ⟨hx, hb, hml, hown, hts⟩ (c_VT_has (l := l) (g := g) (ad := ad) (so := so) (sw := sw) (I := I) (n := n) (v := v) (us := us) (ct := ct) (x := x) (by omega)) (cwV 1 hts (gx_goodV wd_327 wd_328 wd_329 wd_6 wd_330) rfl rfl rfl (by decide +kernel) ⟨Nat.le_of_ble_eq_true rfl, Nat.le_of_ble_eq_true rfl⟩) (gc_preV (gc_recv hP hG (ci := 3) rfl (q0 := 8) rfl) hP hG) rfl rfl hl.1 rfl (lv_room (Nat.le_of_ble_eq_true rfl)) d_MT_match_5 ⟨Nat.le_refl _, Nat.le_refl _⟩).run (fun r hr5 => ?_)
  obtain ⟨z5, hq5, hz5⟩ := hr5
  subst hq5
  refine lv_if_eq (tgt := 36) hx hb d_MT_match_8 (by decide) (mt_z fun hc8 => ?_) (mt_nz fun hc8 => ?_)
  · ---- 8T
    refine lv_iconst (v := -1) hx hb d_MT_match_36 (by decide) ?_
    exact gc_retwi (u := (I, n, v, us, ct)) (Wf := fun (u : gST) => cW g ad so sw u.1 u.2.1 u.2.2.1 u.2.2.2.1 u.2.2.2.2) (post := fun r (u : gST) => sp_mat (n, k, a, b, dp, fc) (v, vk, va, vb, vl) x y o q r ∧ mt_CR u (n, k, a, b, dp, fc) (v, vk, va, vb, vl)) hx hb hr hlk (⟨Or.inl ⟨(fun ⟨i9, _, _, _, h1, _⟩ => absurd (hz5.mpr ⟨i9, h1⟩) (by rw [hc8]; decide)), rfl⟩, hC⟩) hP hD hS d_MT_match_37
  · ---- 8F
    obtain ⟨i, hxi_i⟩ := hz5.mp hc8
    have hlt_i := hxi_i.1
    have hp2_i : 2 ^ i ≤ 2 ^ 20 := Nat.pow_le_pow_right (n := 2) (i := i) (j := 20) (by decide) (by omega)
    refine lv_aload_n hx hb d_MT_match_11 rfl (lv_at hl 0 rfl) ?_
    refine lv_iload_n hx hb d_MT_match_12 rfl (lv_at hl 2 rfl) ?_
    refine vp_callSi (va_runV (own := R_MT) (As := [.int y]) (rest := []) ⟨hx, hb, hml, hown, hts⟩ (c_MT_hasType (l := l) (g := g) (ad := ad) (so := so) (sw := sw) (I := I) (n := n) (v := v) (us := us) (ct := ct) (x := y) (by omega)) (cwV 1 hts (gx_goodV wd_252 wd_254 ws_9 wd_1 wd_255) rfl rfl rfl (by decide +kernel) ⟨Nat.le_of_ble_eq_true rfl, Nat.le_of_ble_eq_true rfl⟩) (gc_preV (gc_recv hP hG (ci := 4) rfl (q0 := 15) rfl) hP hG) rfl rfl hl.1 rfl (lv_room (Nat.le_of_ble_eq_true rfl)) d_MT_match_13 ⟨Nat.le_refl _, Nat.le_refl _⟩).run (fun r hr13 => ?_)
    obtain ⟨z13, hq13, hz13⟩ := hr13
    subst hq13
    refine lv_if_eq (tgt := 36) hx hb d_MT_match_16 (by decide) (mt_z fun hc16 => ?_) (mt_nz fun hc16 => ?_)
    · ---- 8F 16T
      refine lv_iconst (v := -1) hx hb d_MT_match_36 (by decide) ?_
      exact gc_retwi (u := (I, n, v, us, ct)) (Wf := fun (u : gST) => cW g ad so sw u.1 u.2.1 u.2.2.1 u.2.2.2.1 u.2.2.2.2) (post := fun r (u : gST) => sp_mat (n, k, a, b, dp, fc) (v, vk, va, vb, vl) x y o q r ∧ mt_CR u (n, k, a, b, dp, fc) (v, vk, va, vb, vl)) hx hb hr hlk (⟨Or.inl ⟨(fun ⟨_, i9, _, _, _, h1, _⟩ => absurd (hz13.mpr ⟨i9, h1⟩) (by rw [hc16]; decide)), rfl⟩, hC⟩) hP hD hS d_MT_match_37
    · ---- 8F 16F
      obtain ⟨j, hxi_j⟩ := hz13.mp hc16
      have hlt_j := hxi_j.1
      have hp2_j : 2 ^ j ≤ 2 ^ 20 := Nat.pow_le_pow_right (n := 2) (i := j) (j := 20) (by decide) (by omega)
      have hq2_j : 2 ^ j ≤ 2 ^ 12 := Nat.pow_le_pow_right (n := 2) (i := j) (j := 12) (by decide) (by omega)
      refine lv_aload_n hx hb d_MT_match_19 rfl (lv_at hl 0 rfl) ?_
      refine lv_iload_n hx hb d_MT_match_20 rfl (lv_at hl 3 rfl) ?_
      refine vp_callSi (va_runV (own := R_MT) (As := [.int o]) (rest := []) ⟨hx, hb, hml, hown, hts⟩ (c_MT_hasType (l := l) (g := g) (ad := ad) (so := so) (sw := sw) (I := I) (n := n) (v := v) (us := us) (ct := ct) (x := o) (by omega)) (cwV 1 hts (gx_goodV wd_252 wd_254 ws_9 wd_1 wd_255) rfl rfl rfl (by decide +kernel) ⟨Nat.le_of_ble_eq_true rfl, Nat.le_of_ble_eq_true rfl⟩) (gc_preV (gc_recv hP hG (ci := 4) rfl (q0 := 15) rfl) hP hG) rfl rfl hl.1 rfl (lv_room (Nat.le_of_ble_eq_true rfl)) d_MT_match_21 ⟨Nat.le_refl _, Nat.le_refl _⟩).run (fun r hr21 => ?_)
      obtain ⟨z21, hq21, hz21⟩ := hr21
      subst hq21
      refine lv_if_eq (tgt := 36) hx hb d_MT_match_24 (by decide) (mt_z fun hc24 => ?_) (mt_nz fun hc24 => ?_)
      · ---- 8F 16F 24T
        refine lv_iconst (v := -1) hx hb d_MT_match_36 (by decide) ?_
        exact gc_retwi (u := (I, n, v, us, ct)) (Wf := fun (u : gST) => cW g ad so sw u.1 u.2.1 u.2.2.1 u.2.2.2.1 u.2.2.2.2) (post := fun r (u : gST) => sp_mat (n, k, a, b, dp, fc) (v, vk, va, vb, vl) x y o q r ∧ mt_CR u (n, k, a, b, dp, fc) (v, vk, va, vb, vl)) hx hb hr hlk (⟨Or.inl ⟨(fun ⟨_, _, i9, _, _, _, h1, _⟩ => absurd (hz21.mpr ⟨i9, h1⟩) (by rw [hc24]; decide)), rfl⟩, hC⟩) hP hD hS d_MT_match_37
      · ---- 8F 16F 24F
        obtain ⟨h, hxi_h⟩ := hz21.mp hc24
        have hlt_h := hxi_h.1
        have hp2_h : 2 ^ h ≤ 2 ^ 20 := Nat.pow_le_pow_right (n := 2) (i := h) (j := 20) (by decide) (by omega)
        have hq2_h : 2 ^ h ≤ 2 ^ 12 := Nat.pow_le_pow_right (n := 2) (i := h) (j := 12) (by decide) (by omega)
        refine lv_aload_n hx hb d_MT_match_27 rfl (lv_at hl 0 rfl) ?_
        refine lv_iload hx hb d_MT_match_28 (lv_at hl 4 rfl) ?_
        refine vp_callSi (va_runV (own := R_MT) (As := [.int q]) (rest := []) ⟨hx, hb, hml, hown, hts⟩ (c_MT_hasType (l := l) (g := g) (ad := ad) (so := so) (sw := sw) (I := I) (n := n) (v := v) (us := us) (ct := ct) (x := q) (by omega)) (cwV 1 hts (gx_goodV wd_252 wd_254 ws_9 wd_1 wd_255) rfl rfl rfl (by decide +kernel) ⟨Nat.le_of_ble_eq_true rfl, Nat.le_of_ble_eq_true rfl⟩) (gc_preV (gc_recv hP hG (ci := 4) rfl (q0 := 15) rfl) hP hG) rfl rfl hl.1 rfl (lv_room (Nat.le_of_ble_eq_true rfl)) d_MT_match_30 ⟨Nat.le_refl _, Nat.le_refl _⟩).run (fun r hr30 => ?_)
        obtain ⟨z30, hq30, hz30⟩ := hr30
        subst hq30
        refine lv_if_ne (tgt := 38) hx hb d_MT_match_33 (by decide) (mt_nz fun hc33 => ?_) (mt_z fun hc33 => ?_)
        · ---- 8F 16F 24F 33T
          obtain ⟨f, hxi_f⟩ := hz30.mp hc33
          have hlt_f := hxi_f.1
          have hp2_f : 2 ^ f ≤ 2 ^ 20 := Nat.pow_le_pow_right (n := 2) (i := f) (j := 20) (by decide) (by omega)
          have hq2_f : 2 ^ f ≤ 2 ^ 12 := Nat.pow_le_pow_right (n := 2) (i := f) (j := 12) (by decide) (by omega)
          refine lv_aload_n hx hb d_MT_match_38 rfl (lv_at hl 0 rfl) ?_
          refine va_get (D := g.1) (own := R_MT) (ref := R_MT) (ci := 4) (v := .ref (ad 8)) (C := R_MT) (T := F_MT) (N := 2) hx hb hts in_MT hown hG.1 hP 15 rfl rfl 1 (by decide) (hts _ wd_148) (fun _ h9 => h9) rfl d_MT_match_39 ?_
          refine lv_iload_n hx hb d_MT_match_42 rfl (lv_at hl 1 rfl) ?_
          refine mt_ri (y := nI i) hxi_i.2 ?_
          refine lv_aload_n hx hb d_MT_match_43 rfl (lv_at hl 0 rfl) ?_
          refine va_get (D := g.1) (own := R_MT) (ref := R_MT) (ci := 4) (v := .ref (ad 0)) (C := R_MT) (T := F_MT) (N := 2) hx hb hts in_MT hown hG.1 hP 15 rfl rfl 0 (by decide) (hts _ wd_147) (fun _ h9 => h9) rfl d_MT_match_44 ?_
          refine gc_cwi (va_runV (own := R_MT) (As := [.int (nI i), .ref (ad 0)]) (rest := []) ⟨hx, hb, hml, hown, hts⟩ (c_VT_typesOf (l := l) (g := g) (ad := ad) (so := so) (sw := sw) (I := I) (n := n) (v := v) (us := us) (ct := ct) (k := k) (a := a) (b := b) (vk := vk) (va := va) (vb := vb) (vl := vl) (x := i) hT hn12 hw hR hV hv20 hvw hlt_i) (cwV 2 hts (gx_goodV wd_339 wd_340 wd_341 wd_6 wd_342) rfl rfl rfl (by decide +kernel) ⟨Nat.le_of_ble_eq_true rfl, Nat.le_of_ble_eq_true rfl⟩) (gc_preVW (gc_recv hP hG (ci := 3) rfl (q0 := 8) rfl) hP hG hD) rfl rfl hl.1 rfl (lv_room (Nat.le_of_ble_eq_true rfl)) d_MT_match_47 ⟨Nat.le_refl _, Nat.le_refl _⟩) hD hS (fun r9 u9 H locs hr9 hP hD hS => ?_)
          obtain ⟨us9, ct9⟩ := u9
          dsimp only at hP hD hr9
          obtain ⟨hR9, ww, hr8, hww, hwb⟩ := hr9
          subst hr8
          have hww12 := mt_lt13 hww hn
          have hC9 := mt_CR_rw hC hR9
          have hP : va_P g.1 gx_cl (cW g ad so sw I n v us9 ct9) H := hP
          have hD : va_D (gx_in (cW g ad so sw I n v us ct)) (cW g ad so sw I n v us9 ct9) := hD
          refine lv_istore (lv' := [(5, .int (nI ww)), (0, .ref (ad 15)), (1, .int x), (2, .int y), (3, .int o), (4, .int q)]) hx hb d_MT_match_50 hl (by decide) rfl (fun ls hl => ?_)
          refine lv_iload hx hb d_MT_match_52 (lv_at hl 0 rfl) ?_
          refine lv_iload_n hx hb d_MT_match_54 rfl (lv_at hl 3 rfl) ?_
          refine mt_ri (y := nI j) hxi_j.2 ?_
          refine vp_callSi (va_runS (own := R_MT) (As := [.int (nI ww), .int (nI j)]) (rest := []) ⟨hx, hb, hml, hown, hts⟩ (c_MT_holds (l := l) (g := g) (pp := ww) (t := j) (by omega) (by omega)) (va_cwS 2 hts (gx_goodS wd_357 wd_186 wd_1 wd_187) rfl rfl rfl (by decide +kernel) ⟨Nat.le_of_ble_eq_true rfl, Nat.le_of_ble_eq_true rfl⟩) (gc_preS (ws := []) (fun _ _ h => by cases h) hG) rfl rfl hl.1 rfl (lv_room (Nat.le_of_ble_eq_true rfl)) d_MT_match_55 ⟨Nat.le_refl _, Nat.le_refl _⟩).run (fun r hr55 => ?_)
          subst hr55
          refine lv_if_eq (tgt := 63) hx hb d_MT_match_58 (by decide) (mt_z fun hc58 => ?_) (mt_nz fun hc58 => ?_)
          · ---- 8F 16F 24F 33T 58T
            refine lv_iload hx hb d_MT_match_63 (lv_at hl 0 rfl) ?_
            refine lv_iload_n hx hb d_MT_match_65 rfl (lv_at hl 4 rfl) ?_
            refine mt_ri (y := nI h) hxi_h.2 ?_
            refine vp_callSi (va_runS (own := R_MT) (As := [.int (nI ww), .int (nI h)]) (rest := []) ⟨hx, hb, hml, hown, hts⟩ (c_MT_holds (l := l) (g := g) (pp := ww) (t := h) (by omega) (by omega)) (va_cwS 2 hts (gx_goodS wd_357 wd_186 wd_1 wd_187) rfl rfl rfl (by decide +kernel) ⟨Nat.le_of_ble_eq_true rfl, Nat.le_of_ble_eq_true rfl⟩) (gc_preS (ws := []) (fun _ _ h => by cases h) hG) rfl rfl hl.1 rfl (lv_room (Nat.le_of_ble_eq_true rfl)) d_MT_match_66 ⟨Nat.le_refl _, Nat.le_refl _⟩).run (fun r hr66 => ?_)
            subst hr66
            refine lv_if_eq (tgt := 74) hx hb d_MT_match_69 (by decide) (mt_z fun hc69 => ?_) (mt_nz fun hc69 => ?_)
            · ---- 8F 16F 24F 33T 58T 69T
              refine lv_iload hx hb d_MT_match_74 (lv_at hl 0 rfl) ?_
              refine lv_iload hx hb d_MT_match_76 (lv_at hl 5 rfl) ?_
              refine mt_ri (y := nI f) hxi_f.2 ?_
              refine vp_callSi (va_runS (own := R_MT) (As := [.int (nI ww), .int (nI f)]) (rest := []) ⟨hx, hb, hml, hown, hts⟩ (c_MT_holds (l := l) (g := g) (pp := ww) (t := f) (by omega) (by omega)) (va_cwS 2 hts (gx_goodS wd_357 wd_186 wd_1 wd_187) rfl rfl rfl (by decide +kernel) ⟨Nat.le_of_ble_eq_true rfl, Nat.le_of_ble_eq_true rfl⟩) (gc_preS (ws := []) (fun _ _ h => by cases h) hG) rfl rfl hl.1 rfl (lv_room (Nat.le_of_ble_eq_true rfl)) d_MT_match_78 ⟨Nat.le_refl _, Nat.le_refl _⟩).run (fun r hr78 => ?_)
              subst hr78
              refine lv_if_eq (tgt := 88) hx hb d_MT_match_81 (by decide) (mt_z fun hc81 => ?_) (mt_nz fun hc81 => ?_)
              · ---- 8F 16F 24F 33T 58T 69T 81T
                refine lv_iconst (v := nI 0) hx hb d_MT_match_88 (by decide) ?_
                exact gc_retwi (u := (I, n, v, us9, ct9)) (Wf := fun (u : gST) => cW g ad so sw u.1 u.2.1 u.2.2.1 u.2.2.2.1 u.2.2.2.2) (post := fun r (u : gST) => sp_mat (n, k, a, b, dp, fc) (v, vk, va, vb, vl) x y o q r ∧ mt_CR u (n, k, a, b, dp, fc) (v, vk, va, vb, vl)) hx hb hr hlk (⟨Or.inr ⟨i, j, h, f, hxi_i, hxi_j, hxi_h, hxi_f, Or.inr (Or.inr (Or.inr ⟨(fun h9 => by have h4 := (hwb j).mpr ⟨hlt_j, h9⟩; rw [hc58] at h4; cases h4), (fun h9 => by have h4 := (hwb h).mpr ⟨hlt_h, h9⟩; rw [hc69] at h4; cases h4), (fun h9 => by have h4 := (hwb f).mpr ⟨hlt_f, h9⟩; rw [hc81] at h4; cases h4), rfl⟩))⟩, hC9⟩) hP hD hS d_MT_match_89
              · ---- 8F 16F 24F 33T 58T 69T 81F
                refine lv_iconst (v := nI 3) hx hb d_MT_match_84 (by decide) ?_
                refine lv_goto (tgt := 89) hx hb d_MT_match_85 (by decide) ?_
                exact gc_retwi (u := (I, n, v, us9, ct9)) (Wf := fun (u : gST) => cW g ad so sw u.1 u.2.1 u.2.2.1 u.2.2.2.1 u.2.2.2.2) (post := fun r (u : gST) => sp_mat (n, k, a, b, dp, fc) (v, vk, va, vb, vl) x y o q r ∧ mt_CR u (n, k, a, b, dp, fc) (v, vk, va, vb, vl)) hx hb hr hlk (⟨Or.inr ⟨i, j, h, f, hxi_i, hxi_j, hxi_h, hxi_f, Or.inr (Or.inr (Or.inl ⟨(fun h9 => by have h4 := (hwb j).mpr ⟨hlt_j, h9⟩; rw [hc58] at h4; cases h4), (fun h9 => by have h4 := (hwb h).mpr ⟨hlt_h, h9⟩; rw [hc69] at h4; cases h4), ((hwb f).mp hc81).2, rfl⟩))⟩, hC9⟩) hP hD hS d_MT_match_89
            · ---- 8F 16F 24F 33T 58T 69F
              refine lv_iconst (v := nI 2) hx hb d_MT_match_72 (by decide) ?_
              exact gc_retwi (u := (I, n, v, us9, ct9)) (Wf := fun (u : gST) => cW g ad so sw u.1 u.2.1 u.2.2.1 u.2.2.2.1 u.2.2.2.2) (post := fun r (u : gST) => sp_mat (n, k, a, b, dp, fc) (v, vk, va, vb, vl) x y o q r ∧ mt_CR u (n, k, a, b, dp, fc) (v, vk, va, vb, vl)) hx hb hr hlk (⟨Or.inr ⟨i, j, h, f, hxi_i, hxi_j, hxi_h, hxi_f, Or.inr (Or.inl ⟨(fun h9 => by have h4 := (hwb j).mpr ⟨hlt_j, h9⟩; rw [hc58] at h4; cases h4), ((hwb h).mp hc69).2, rfl⟩)⟩, hC9⟩) hP hD hS d_MT_match_73
          · ---- 8F 16F 24F 33T 58F
            refine lv_iconst (v := nI 1) hx hb d_MT_match_61 (by decide) ?_
            exact gc_retwi (u := (I, n, v, us9, ct9)) (Wf := fun (u : gST) => cW g ad so sw u.1 u.2.1 u.2.2.1 u.2.2.2.1 u.2.2.2.2) (post := fun r (u : gST) => sp_mat (n, k, a, b, dp, fc) (v, vk, va, vb, vl) x y o q r ∧ mt_CR u (n, k, a, b, dp, fc) (v, vk, va, vb, vl)) hx hb hr hlk (⟨Or.inr ⟨i, j, h, f, hxi_i, hxi_j, hxi_h, hxi_f, Or.inl ⟨((hwb j).mp hc58).2, rfl⟩⟩, hC9⟩) hP hD hS d_MT_match_62
        · ---- 8F 16F 24F 33F
          refine lv_iconst (v := -1) hx hb d_MT_match_36 (by decide) ?_
          exact gc_retwi (u := (I, n, v, us, ct)) (Wf := fun (u : gST) => cW g ad so sw u.1 u.2.1 u.2.2.1 u.2.2.2.1 u.2.2.2.2) (post := fun r (u : gST) => sp_mat (n, k, a, b, dp, fc) (v, vk, va, vb, vl) x y o q r ∧ mt_CR u (n, k, a, b, dp, fc) (v, vk, va, vb, vl)) hx hb hr hlk (⟨Or.inl ⟨(fun ⟨_, _, _, i9, _, _, _, h1⟩ => absurd (hz30.mpr ⟨i9, h1⟩) (by rw [hc33]; decide)), rfl⟩, hC⟩) hP hD hS d_MT_match_37

set_option maxHeartbeats 4000000 in
set_option maxRecDepth 100000 in
theorem c_MT_sorts {g : gG} {ad so sw : Nat → Nat} {I : Nat → Nat → Int32} {n v : Nat} {us : Nat → Nat} {ct : Nat → Nat → Int64}{k a b : Nat → Nat} {dp : Nat → Nat} {fc : Nat → Bool} {vk va vb vl : Nat → Nat} {x : Int32} {l : Launch} (hC : mt_CR (I, n, v, us, ct) (n, k, a, b, dp, fc) (v, vk, va, vb, vl))  :
    gc_RW (S := gST) l y_MT_sorts (gx_ws y_MT_sorts b_MT_sorts 2 (some .int)) 9 209 g [.ref (ad 15), .int x] (cW g ad so sw I n v us ct) (fun (u : gST) => cW g ad so sw u.1 u.2.1 u.2.2.1 u.2.2.2.1 u.2.2.2.2) (fun r (u : gST) => sp_srt (n, k, a, b, dp, fc) (v, vk, va, vb, vl) x r ∧ mt_CR u (n, k, a, b, dp, fc) (v, vk, va, vb, vl)) := by
  refine gx_body (by decide) (Nat.le_of_ble_eq_true rfl) ?_
  intro p e s m below meth c ls hAt hB hl
  obtain ⟨hx, hb, hml, hown, hts, hr, hlk, hnm⟩ := hAt
  have hown : s.vm.findClass R_MT = some m.cls := hown
  obtain ⟨⟨hP, hG⟩, hD0⟩ := hB
  have hD := gx_D.self hD0
  have hS : va_S (gx_in (cW g ad so sw I n v us ct)) s.heap s.heap [] := va_S.rf
  have hl : lv_has ls 2 [(0, .ref (ad 15)), (1, .int x)] := hl
  have hC0 := hC
  obtain ⟨-, -, hn12, hT, hE, hw, hdp, hR, hv20, hV, hvw⟩ := hC0
  have hn : n ≤ 13 := by omega
  have hRn := hR n (Nat.le_refl n)
  have hun := hRn.1
  have hp12 : 2 ^ n ≤ 4096 := Nat.pow_le_pow_right (n := 2) (i := n) (j := 12) (by decide) hn12
  refine lv_aload_n hx hb d_MT_sorts_0 rfl (lv_at hl 0 rfl) ?_
  refine va_get (D := g.1) (own := R_MT) (ref := R_MT) (ci := 4) (v := .ref (ad 8)) (C := R_MT) (T := F_MT) (N := 2) hx hb hts in_MT hown hG.1 hP 15 rfl rfl 1 (by decide) (hts _ wd_148) (fun _ h9 => h9) rfl d_MT_sorts_1 ?_
  refine lv_iload_n hx hb d_MT_sorts_4 rfl (lv_at hl 1 rfl) ?_
  refine vp_callSi (va_runV (own := R_MT) (As := [.int x]) (rest := []) ⟨hx, hb, hml, hown, hts⟩ (c_VT_has (l := l) (g := g) (ad := ad) (so := so) (sw := sw) (I := I) (n := n) (v := v) (us := us) (ct := ct) (x := x) (by omega)) (cwV 1 hts (gx_goodV wd_327 wd_328 wd_329 wd_6 wd_330) rfl rfl rfl (by decide +kernel) ⟨Nat.le_of_ble_eq_true rfl, Nat.le_of_ble_eq_true rfl⟩) (gc_preV (gc_recv hP hG (ci := 3) rfl (q0 := 8) rfl) hP hG) rfl rfl hl.1 rfl (lv_room (Nat.le_of_ble_eq_true rfl)) d_MT_sorts_5 ⟨Nat.le_refl _, Nat.le_refl _⟩).run (fun r hr5 => ?_)
  obtain ⟨z5, hq5, hz5⟩ := hr5
  subst hq5
  refine lv_if_ne (tgt := 13) hx hb d_MT_sorts_8 (by decide) (mt_nz fun hc8 => ?_) (mt_z fun hc8 => ?_)
  · ---- 8T
    obtain ⟨i, hxi_i⟩ := hz5.mp hc8
    have hlt_i := hxi_i.1
    have hp2_i : 2 ^ i ≤ 2 ^ 20 := Nat.pow_le_pow_right (n := 2) (i := i) (j := 20) (by decide) (by omega)
    refine lv_aload_n hx hb d_MT_sorts_13 rfl (lv_at hl 0 rfl) ?_
    refine va_get (D := g.1) (own := R_MT) (ref := R_MT) (ci := 4) (v := .ref (ad 8)) (C := R_MT) (T := F_MT) (N := 2) hx hb hts in_MT hown hG.1 hP 15 rfl rfl 1 (by decide) (hts _ wd_148) (fun _ h9 => h9) rfl d_MT_sorts_14 ?_
    refine lv_iload_n hx hb d_MT_sorts_17 rfl (lv_at hl 1 rfl) ?_
    refine mt_ri (y := nI i) hxi_i.2 ?_
    refine lv_aload_n hx hb d_MT_sorts_18 rfl (lv_at hl 0 rfl) ?_
    refine va_get (D := g.1) (own := R_MT) (ref := R_MT) (ci := 4) (v := .ref (ad 0)) (C := R_MT) (T := F_MT) (N := 2) hx hb hts in_MT hown hG.1 hP 15 rfl rfl 0 (by decide) (hts _ wd_147) (fun _ h9 => h9) rfl d_MT_sorts_19 ?_
    refine gc_cwi (va_runV (own := R_MT) (As := [.int (nI i), .ref (ad 0)]) (rest := []) ⟨hx, hb, hml, hown, hts⟩ (c_VT_typesOf (l := l) (g := g) (ad := ad) (so := so) (sw := sw) (I := I) (n := n) (v := v) (us := us) (ct := ct) (k := k) (a := a) (b := b) (vk := vk) (va := va) (vb := vb) (vl := vl) (x := i) hT hn12 hw hR hV hv20 hvw hlt_i) (cwV 2 hts (gx_goodV wd_339 wd_340 wd_341 wd_6 wd_342) rfl rfl rfl (by decide +kernel) ⟨Nat.le_of_ble_eq_true rfl, Nat.le_of_ble_eq_true rfl⟩) (gc_preVW (gc_recv hP hG (ci := 3) rfl (q0 := 8) rfl) hP hG hD) rfl rfl hl.1 rfl (lv_room (Nat.le_of_ble_eq_true rfl)) d_MT_sorts_22 ⟨Nat.le_refl _, Nat.le_refl _⟩) hD hS (fun r9 u9 H locs hr9 hP hD hS => ?_)
    obtain ⟨us9, ct9⟩ := u9
    dsimp only at hP hD hr9
    obtain ⟨hR9, ww, hr8, hww, hwb⟩ := hr9
    subst hr8
    have hww12 := mt_lt13 hww hn
    have hC9 := mt_CR_rw hC hR9
    have hP : va_P g.1 gx_cl (cW g ad so sw I n v us9 ct9) H := hP
    have hD : va_D (gx_in (cW g ad so sw I n v us ct)) (cW g ad so sw I n v us9 ct9) := hD
    refine vp_callSi (va_runS (own := R_MT) (As := [.int (nI ww)]) (rest := []) ⟨hx, hb, hml, hown, hts⟩ (c_JI_bitCount (l := l) (g := g) (x := nI ww)) (va_cwS 1 hts (gx_goodS wd_366 wd_367 wd_9 wd_368) rfl rfl rfl (by decide +kernel) ⟨Nat.le_of_ble_eq_true rfl, Nat.le_of_ble_eq_true rfl⟩) (gc_preS (ws := []) (fun _ _ h => by cases h) hG) rfl rfl hl.1 rfl (lv_room (Nat.le_of_ble_eq_true rfl)) d_MT_sorts_25 ⟨Nat.le_refl _, Nat.le_refl _⟩).run (fun r hr25 => ?_)
    subst hr25
    exact gc_retwi (u := (I, n, v, us9, ct9)) (Wf := fun (u : gST) => cW g ad so sw u.1 u.2.1 u.2.2.1 u.2.2.2.1 u.2.2.2.2) (post := fun r (u : gST) => sp_srt (n, k, a, b, dp, fc) (v, vk, va, vb, vl) x r ∧ mt_CR u (n, k, a, b, dp, fc) (v, vk, va, vb, vl)) hx hb hr hlk (⟨Or.inr ⟨i, fun t => ww.testBit t, hxi_i, (fun t ht => ⟨fun h9 => ((hwb t).mp h9).2, fun h9 => (hwb t).mpr ⟨ht, h9⟩⟩), (mt_bc32_is ww (by omega)).trans (congrArg nI (mt_num_ext hn12 (fun t ht => Nat.testBit_lt_two_pow (Nat.lt_of_lt_of_le hww (Nat.pow_le_pow_right (by decide) ht)))))⟩, hC9⟩) hP hD hS d_MT_sorts_28
  · ---- 8F
    refine lv_iconst (v := -1) hx hb d_MT_sorts_11 (by decide) ?_
    exact gc_retwi (u := (I, n, v, us, ct)) (Wf := fun (u : gST) => cW g ad so sw u.1 u.2.1 u.2.2.1 u.2.2.2.1 u.2.2.2.2) (post := fun r (u : gST) => sp_srt (n, k, a, b, dp, fc) (v, vk, va, vb, vl) x r ∧ mt_CR u (n, k, a, b, dp, fc) (v, vk, va, vb, vl)) hx hb hr hlk (⟨Or.inl ⟨(fun ⟨i9, h1⟩ => absurd (hz5.mpr ⟨i9, h1⟩) (by rw [hc8]; decide)), rfl⟩, hC⟩) hP hD hS d_MT_sorts_12

set_option maxHeartbeats 4000000 in
set_option maxRecDepth 100000 in
theorem c_MT_cut {g : gG} {ad so sw : Nat → Nat} {I : Nat → Nat → Int32} {n v : Nat} {us : Nat → Nat} {ct : Nat → Nat → Int64}{k a b : Nat → Nat} {dp : Nat → Nat} {fc : Nat → Bool} {vk va vb vl : Nat → Nat} {x : Int32} {l : Launch} (hC : mt_CR (I, n, v, us, ct) (n, k, a, b, dp, fc) (v, vk, va, vb, vl))  :
    gc_RW (S := gST) l y_MT_cut (gx_ws y_MT_cut b_MT_cut 2 (some .int)) 2 42 g [.ref (ad 15), .int x] (cW g ad so sw I n v us ct) (fun (u : gST) => cW g ad so sw u.1 u.2.1 u.2.2.1 u.2.2.2.1 u.2.2.2.2) (fun r (u : gST) => r = nI (sp_cutn n x) ∧ mt_CR u (sp_cut (n, k, a, b, dp, fc) x) (sp_cutV (v, vk, va, vb, vl))) := by
  refine gx_body (by decide) (Nat.le_of_ble_eq_true rfl) ?_
  intro p e s m below meth c ls hAt hB hl
  obtain ⟨hx, hb, hml, hown, hts, hr, hlk, hnm⟩ := hAt
  have hown : s.vm.findClass R_MT = some m.cls := hown
  obtain ⟨⟨hP, hG⟩, hD0⟩ := hB
  have hD := gx_D.self hD0
  have hS : va_S (gx_in (cW g ad so sw I n v us ct)) s.heap s.heap [] := va_S.rf
  have hl : lv_has ls 2 [(0, .ref (ad 15)), (1, .int x)] := hl
  have hC0 := hC
  obtain ⟨-, -, hn12, hT, hE, hw, hdp, hR, hv20, hV, hvw⟩ := hC0
  have hn : n ≤ 13 := by omega
  have hRn := hR n (Nat.le_refl n)
  have hun := hRn.1
  by_cases hx0 : x < 0
  · ---- neg
    refine lv_aload_n hx hb d_MT_cut_0 rfl (lv_at hl 0 rfl) ?_
    refine va_get (D := g.1) (own := R_MT) (ref := R_MT) (ci := 4) (v := .ref (ad 8)) (C := R_MT) (T := F_MT) (N := 2) hx hb hts in_MT hown hG.1 hP 15 rfl rfl 1 (by decide) (hts _ wd_148) (fun _ h9 => h9) rfl d_MT_cut_1 ?_
    refine lv_iconst (v := nI 0) hx hb d_MT_cut_4 (by decide) ?_
    refine va_putN (D := g.1) (own := R_MT) (ref := R_VT) (ci := 3) (v := .int (nI 0)) (ty := .int) (C := R_VT) (T := F_VT) (N := 8) hx hb hts in_VT t_VT t_VT_ok n_VT hown hG.1 hP hD hS 8 rfl rfl 4 (by decide) (va_Nw.use rfl (hG.2.1 _ nw_12)) (fun _ h9 => h9) rfl (by decide +kernel) rfl rfl (Nat.le_of_ble_eq_true rfl) d_MT_cut_5 (fun H locs hP hD hS => ?_)
    have hP : va_P g.1 gx_cl (cW g ad so sw I n 0 us ct) H := hP
    have hD : va_D (gx_in (cW g ad so sw I n v us ct)) (cW g ad so sw I n 0 us ct) := hD
    refine lv_aload_n hx hb d_MT_cut_8 rfl (lv_at hl 0 rfl) ?_
    refine va_get (D := g.1) (own := R_MT) (ref := R_MT) (ci := 4) (v := .ref (ad 0)) (C := R_MT) (T := F_MT) (N := 2) hx hb hts in_MT hown hG.1 hP 15 rfl rfl 0 (by decide) (hts _ wd_147) (fun _ h9 => h9) rfl d_MT_cut_9 ?_
    refine va_getN (D := g.1) (own := R_MT) (ref := R_MG) (ci := 2) (v := .ref (ad 1)) (C := R_MG) (T := F_MG) (N := 6) hx hb hts in_MG hown hG.1 hP 0 rfl rfl 0 (by decide) (va_Nw.use rfl (hG.2.1 _ nw_10)) (fun _ h9 => h9) rfl d_MT_cut_12 ?_
    refine lv_iload_n hx hb d_MT_cut_15 rfl (lv_at hl 1 rfl) ?_
    refine lv_iconst (v := nI 0) hx hb d_MT_cut_16 (by decide) ?_
    refine va_mmax hx hb (by rw [hml]; exact hl.1.symm) hown (hts _ wd_376) (hts _ wd_175) (hts _ wd_5) (hts _ wd_176) (Nat.le_of_ble_eq_true rfl) (Nat.le_of_ble_eq_true rfl) (Nat.le_refl _) (Nat.le_refl _) d_MT_cut_17 ?_
    refine mt_ri (y := nI 0) (by rw [if_pos (show x < nI 0 from hx0)]) ?_
    refine gc_cwv (va_runV (own := R_MT) (As := [.int (nI 0)]) (rest := []) ⟨hx, hb, hml, hown, hts⟩ (c_TT_keep (l := l) (g := g) (ad := ad) (so := so) (sw := sw) (I := I) (n := n) (v := 0) (us := us) (ct := ct) (x := 0) (by omega) (by omega)) (cwV 1 hts (gx_goodV wd_306 wd_307 wd_308 wd_3 wd_309) rfl rfl rfl (by decide +kernel) ⟨Nat.le_of_ble_eq_true rfl, Nat.le_of_ble_eq_true rfl⟩) (gc_preVW (gc_recv hP hG (ci := 1) rfl (q0 := 1) rfl) hP hG hD) rfl rfl hl.1 rfl (lv_room (Nat.le_of_ble_eq_true rfl)) d_MT_cut_20 ⟨Nat.le_refl _, Nat.le_refl _⟩) hD hS (fun u20 H locs hu20 hP hD hS => ?_)
    have hP : va_P g.1 gx_cl (cW g ad so sw I (min n 0) 0 us ct) H := hP
    have hD : va_D (gx_in (cW g ad so sw I n v us ct)) (cW g ad so sw I (min n 0) 0 us ct) := hD
    refine lv_aload_n hx hb d_MT_cut_23 rfl (lv_at hl 0 rfl) ?_
    refine va_get (D := g.1) (own := R_MT) (ref := R_MT) (ci := 4) (v := .ref (ad 0)) (C := R_MT) (T := F_MT) (N := 2) hx hb hts in_MT hown hG.1 hP 15 rfl rfl 0 (by decide) (hts _ wd_147) (fun _ h9 => h9) rfl d_MT_cut_24 ?_
    refine va_getN (D := g.1) (own := R_MT) (ref := R_MG) (ci := 2) (v := .ref (ad 1)) (C := R_MG) (T := F_MG) (N := 6) hx hb hts in_MG hown hG.1 hP 0 rfl rfl 0 (by decide) (va_Nw.use rfl (hG.2.1 _ nw_10)) (fun _ h9 => h9) rfl d_MT_cut_27 ?_
    refine va_getN (D := g.1) (own := R_MT) (ref := R_TT) (ci := 1) (v := .int (nI (min n 0))) (C := R_TT) (T := F_TT) (N := 6) hx hb hts in_TT hown hG.1 hP 1 rfl rfl 5 (by decide) (va_Nw.use rfl (hG.2.1 _ nw_6)) (fun _ h9 => h9) rfl d_MT_cut_30 ?_
    exact gc_retwi (u := (I, min n 0, 0, us, ct)) (Wf := fun (u : gST) => cW g ad so sw u.1 u.2.1 u.2.2.1 u.2.2.2.1 u.2.2.2.2) (post := fun r (u : gST) => r = nI (sp_cutn n x) ∧ mt_CR u (sp_cut (n, k, a, b, dp, fc) x) (sp_cutV (v, vk, va, vb, vl))) hx hb hr hlk (⟨by rw [mt_cut_n hx0]; simp, by rw [show min n 0 = sp_cutn n x by rw [mt_cut_n hx0]; simp]; exact mt_CR_cut hC⟩) hP hD hS d_MT_cut_33
  · ---- pos
    obtain ⟨j, hj31, hxj⟩ := nI_of hx0
    refine lv_aload_n hx hb d_MT_cut_0 rfl (lv_at hl 0 rfl) ?_
    refine va_get (D := g.1) (own := R_MT) (ref := R_MT) (ci := 4) (v := .ref (ad 8)) (C := R_MT) (T := F_MT) (N := 2) hx hb hts in_MT hown hG.1 hP 15 rfl rfl 1 (by decide) (hts _ wd_148) (fun _ h9 => h9) rfl d_MT_cut_1 ?_
    refine lv_iconst (v := nI 0) hx hb d_MT_cut_4 (by decide) ?_
    refine va_putN (D := g.1) (own := R_MT) (ref := R_VT) (ci := 3) (v := .int (nI 0)) (ty := .int) (C := R_VT) (T := F_VT) (N := 8) hx hb hts in_VT t_VT t_VT_ok n_VT hown hG.1 hP hD hS 8 rfl rfl 4 (by decide) (va_Nw.use rfl (hG.2.1 _ nw_12)) (fun _ h9 => h9) rfl (by decide +kernel) rfl rfl (Nat.le_of_ble_eq_true rfl) d_MT_cut_5 (fun H locs hP hD hS => ?_)
    have hP : va_P g.1 gx_cl (cW g ad so sw I n 0 us ct) H := hP
    have hD : va_D (gx_in (cW g ad so sw I n v us ct)) (cW g ad so sw I n 0 us ct) := hD
    refine lv_aload_n hx hb d_MT_cut_8 rfl (lv_at hl 0 rfl) ?_
    refine va_get (D := g.1) (own := R_MT) (ref := R_MT) (ci := 4) (v := .ref (ad 0)) (C := R_MT) (T := F_MT) (N := 2) hx hb hts in_MT hown hG.1 hP 15 rfl rfl 0 (by decide) (hts _ wd_147) (fun _ h9 => h9) rfl d_MT_cut_9 ?_
    refine va_getN (D := g.1) (own := R_MT) (ref := R_MG) (ci := 2) (v := .ref (ad 1)) (C := R_MG) (T := F_MG) (N := 6) hx hb hts in_MG hown hG.1 hP 0 rfl rfl 0 (by decide) (va_Nw.use rfl (hG.2.1 _ nw_10)) (fun _ h9 => h9) rfl d_MT_cut_12 ?_
    refine lv_iload_n hx hb d_MT_cut_15 rfl (lv_at hl 1 rfl) ?_
    refine mt_ri (y := nI j) hxj ?_
    refine lv_iconst (v := nI 0) hx hb d_MT_cut_16 (by decide) ?_
    refine va_mmax hx hb (by rw [hml]; exact hl.1.symm) hown (hts _ wd_376) (hts _ wd_175) (hts _ wd_5) (hts _ wd_176) (Nat.le_of_ble_eq_true rfl) (Nat.le_of_ble_eq_true rfl) (Nat.le_refl _) (Nat.le_refl _) d_MT_cut_17 ?_
    refine mt_ri (y := nI j) (by rw [if_neg (nI_nlt (Nat.zero_le j) hj31)]) ?_
    refine gc_cwv (va_runV (own := R_MT) (As := [.int (nI j)]) (rest := []) ⟨hx, hb, hml, hown, hts⟩ (c_TT_keep (l := l) (g := g) (ad := ad) (so := so) (sw := sw) (I := I) (n := n) (v := 0) (us := us) (ct := ct) (x := j) (by omega) (by omega)) (cwV 1 hts (gx_goodV wd_306 wd_307 wd_308 wd_3 wd_309) rfl rfl rfl (by decide +kernel) ⟨Nat.le_of_ble_eq_true rfl, Nat.le_of_ble_eq_true rfl⟩) (gc_preVW (gc_recv hP hG (ci := 1) rfl (q0 := 1) rfl) hP hG hD) rfl rfl hl.1 rfl (lv_room (Nat.le_of_ble_eq_true rfl)) d_MT_cut_20 ⟨Nat.le_refl _, Nat.le_refl _⟩) hD hS (fun u20 H locs hu20 hP hD hS => ?_)
    have hP : va_P g.1 gx_cl (cW g ad so sw I (min n j) 0 us ct) H := hP
    have hD : va_D (gx_in (cW g ad so sw I n v us ct)) (cW g ad so sw I (min n j) 0 us ct) := hD
    refine lv_aload_n hx hb d_MT_cut_23 rfl (lv_at hl 0 rfl) ?_
    refine va_get (D := g.1) (own := R_MT) (ref := R_MT) (ci := 4) (v := .ref (ad 0)) (C := R_MT) (T := F_MT) (N := 2) hx hb hts in_MT hown hG.1 hP 15 rfl rfl 0 (by decide) (hts _ wd_147) (fun _ h9 => h9) rfl d_MT_cut_24 ?_
    refine va_getN (D := g.1) (own := R_MT) (ref := R_MG) (ci := 2) (v := .ref (ad 1)) (C := R_MG) (T := F_MG) (N := 6) hx hb hts in_MG hown hG.1 hP 0 rfl rfl 0 (by decide) (va_Nw.use rfl (hG.2.1 _ nw_10)) (fun _ h9 => h9) rfl d_MT_cut_27 ?_
    refine va_getN (D := g.1) (own := R_MT) (ref := R_TT) (ci := 1) (v := .int (nI (min n j))) (C := R_TT) (T := F_TT) (N := 6) hx hb hts in_TT hown hG.1 hP 1 rfl rfl 5 (by decide) (va_Nw.use rfl (hG.2.1 _ nw_6)) (fun _ h9 => h9) rfl d_MT_cut_30 ?_
    exact gc_retwi (u := (I, min n j, 0, us, ct)) (Wf := fun (u : gST) => cW g ad so sw u.1 u.2.1 u.2.2.1 u.2.2.2.1 u.2.2.2.2) (post := fun r (u : gST) => r = nI (sp_cutn n x) ∧ mt_CR u (sp_cut (n, k, a, b, dp, fc) x) (sp_cutV (v, vk, va, vb, vl))) hx hb hr hlk (⟨by rw [mt_cut_p hj31 hxj], by rw [show min n j = sp_cutn n x by rw [mt_cut_p hj31 hxj]]; exact mt_CR_cut hC⟩) hP hD hS d_MT_cut_33
