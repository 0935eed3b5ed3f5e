set_option maxHeartbeats 4000000 in
set_option maxRecDepth 100000 in
theorem c_MT_makeFromParts {g : gG} {ad so sw : Nat → Nat} {I : Nat → Nat → Int32} {n v : Nat} {us : Nat → Nat} {ct : Nat → Nat → Int64}{k a b : Nat → Nat} {dp : Nat → Nat} {fc : Nat → Bool} {vk va vb vl : Nat → Nat} {x y : Int32} {kk : Nat} {l : Launch} (hC : mt_CR (I, n, v, us, ct) (n, k, a, b, dp, fc) (v, vk, va, vb, vl)) (hkk : 1 ≤ kk ∧ kk ≤ 5) :
    gc_RW (S := gST) l y_MT_makeFromParts (gx_ws y_MT_makeFromParts b_MT_makeFromParts 4 (some .int)) 6 142 g [.ref (ad 15), .int (nI kk), .int x, .int y] (cW g ad so sw I n v us ct) (fun (u : gST) => cW g ad so sw u.1 u.2.1 u.2.2.1 u.2.2.2.1 u.2.2.2.2) (fun r (u : gST) => ∃ T, sp_cmb (n, k, a, b, dp, fc) kk x y r T ∧ mt_CR u T (v, vk, va, vb, vl)) := by
  refine gx_body (by decide) (Nat.le_of_ble_eq_true rfl) ?_
  intro p e s m below meth c ls hAt hB hl
  obtain ⟨hx, hb, hml, hown, hts, hr, hlk, hnm⟩ := hAt
  have hown : s.vm.findClass R_MT = some m.cls := hown
  obtain ⟨⟨hP, hG⟩, hD0⟩ := hB
  have hD := gx_D.self hD0
  have hS : va_S (gx_in (cW g ad so sw I n v us ct)) s.heap s.heap [] := va_S.rf
  have hl : lv_has ls 4 [(0, .ref (ad 15)), (1, .int (nI kk)), (2, .int x), (3, .int y)] := hl
  have hC0 := hC
  obtain ⟨-, -, hn12, hT, hE, hw, hdp, hR, hv20, hV, hvw⟩ := hC0
  have hn : n ≤ 13 := by omega
  have hRn := hR n (Nat.le_refl n)
  have hun := hRn.1
  refine lv_aload_n hx hb d_MT_makeFromParts_0 rfl (lv_at hl 0 rfl) ?_
  refine lv_iload_n hx hb d_MT_makeFromParts_1 rfl (lv_at hl 2 rfl) ?_
  refine vp_callSi (va_runV (own := R_MT) (As := [.int x]) (rest := []) ⟨hx, hb, hml, hown, hts⟩ (c_MT_hasType (l := l) (g := g) (ad := ad) (so := so) (sw := sw) (I := I) (n := n) (v := v) (us := us) (ct := ct) (x := x) (by omega)) (cwV 1 hts (gx_goodV wd_252 wd_254 ws_9 wd_1 wd_255) rfl rfl rfl (by decide +kernel) ⟨Nat.le_of_ble_eq_true rfl, Nat.le_of_ble_eq_true rfl⟩) (gc_preV (gc_recv hP hG (ci := 4) rfl (q0 := 15) rfl) hP hG) rfl rfl hl.1 rfl (lv_room (Nat.le_of_ble_eq_true rfl)) d_MT_makeFromParts_2 ⟨Nat.le_refl _, Nat.le_refl _⟩).run (fun r hr2 => ?_)
  obtain ⟨z2, hq2, hz2⟩ := hr2
  subst hq2
  refine lv_if_eq (tgt := 23) hx hb d_MT_makeFromParts_5 (by decide) (mt_z fun hc5 => ?_) (mt_nz fun hc5 => ?_)
  · ---- 5T
    refine lv_iconst (v := -1) hx hb d_MT_makeFromParts_23 (by decide) ?_
    exact gc_retwi (u := (I, n, v, us, ct)) (Wf := fun (u : gST) => cW g ad so sw u.1 u.2.1 u.2.2.1 u.2.2.2.1 u.2.2.2.2) (post := fun r (u : gST) => ∃ T, sp_cmb (n, k, a, b, dp, fc) kk x y r T ∧ mt_CR u T (v, vk, va, vb, vl)) hx hb hr hlk (⟨(n, k, a, b, dp, fc), Or.inr ⟨(fun ⟨i9, _, h1⟩ => absurd (hz2.mpr ⟨i9, h1.1⟩) (by rw [hc5]; decide)), rfl, rfl⟩, hC⟩) hP hD hS d_MT_makeFromParts_24
  · ---- 5F
    obtain ⟨i, hxi_i⟩ := hz2.mp hc5
    have hlt_i := hxi_i.1
    have hp2_i : 2 ^ i ≤ 2 ^ 20 := Nat.pow_le_pow_right (n := 2) (i := i) (j := 20) (by decide) (by omega)
    have hq2_i : 2 ^ i ≤ 2 ^ 12 := Nat.pow_le_pow_right (n := 2) (i := i) (j := 12) (by decide) (by omega)
    refine lv_aload_n hx hb d_MT_makeFromParts_8 rfl (lv_at hl 0 rfl) ?_
    refine lv_iload_n hx hb d_MT_makeFromParts_9 rfl (lv_at hl 3 rfl) ?_
    refine vp_callSi (va_runV (own := R_MT) (As := [.int y]) (rest := []) ⟨hx, hb, hml, hown, hts⟩ (c_MT_hasType (l := l) (g := g) (ad := ad) (so := so) (sw := sw) (I := I) (n := n) (v := v) (us := us) (ct := ct) (x := y) (by omega)) (cwV 1 hts (gx_goodV wd_252 wd_254 ws_9 wd_1 wd_255) rfl rfl rfl (by decide +kernel) ⟨Nat.le_of_ble_eq_true rfl, Nat.le_of_ble_eq_true rfl⟩) (gc_preV (gc_recv hP hG (ci := 4) rfl (q0 := 15) rfl) hP hG) rfl rfl hl.1 rfl (lv_room (Nat.le_of_ble_eq_true rfl)) d_MT_makeFromParts_10 ⟨Nat.le_refl _, Nat.le_refl _⟩).run (fun r hr10 => ?_)
    obtain ⟨z10, hq10, hz10⟩ := hr10
    subst hq10
    refine lv_if_eq (tgt := 23) hx hb d_MT_makeFromParts_13 (by decide) (mt_z fun hc13 => ?_) (mt_nz fun hc13 => ?_)
    · ---- 5F 13T
      refine lv_iconst (v := -1) hx hb d_MT_makeFromParts_23 (by decide) ?_
      exact gc_retwi (u := (I, n, v, us, ct)) (Wf := fun (u : gST) => cW g ad so sw u.1 u.2.1 u.2.2.1 u.2.2.2.1 u.2.2.2.2) (post := fun r (u : gST) => ∃ T, sp_cmb (n, k, a, b, dp, fc) kk x y r T ∧ mt_CR u T (v, vk, va, vb, vl)) hx hb hr hlk (⟨(n, k, a, b, dp, fc), Or.inr ⟨(fun ⟨_, j9, h1⟩ => absurd (hz10.mpr ⟨j9, h1.2.1⟩) (by rw [hc13]; decide)), rfl, rfl⟩, hC⟩) hP hD hS d_MT_makeFromParts_24
    · ---- 5F 13F
      obtain ⟨j, hxi_j⟩ := hz10.mp hc13
      have hlt_j := hxi_j.1
      have hp2_j : 2 ^ j ≤ 2 ^ 20 := Nat.pow_le_pow_right (n := 2) (i := j) (j := 20) (by decide) (by omega)
      have hq2_j : 2 ^ j ≤ 2 ^ 12 := Nat.pow_le_pow_right (n := 2) (i := j) (j := 12) (by decide) (by omega)
      refine lv_aload_n hx hb d_MT_makeFromParts_16 rfl (lv_at hl 0 rfl) ?_
      refine vp_callSi (va_runV (own := R_MT) (As := []) (rest := []) ⟨hx, hb, hml, hown, hts⟩ (c_MT_isFull (l := l) (g := g) (ad := ad) (so := so) (sw := sw) (I := I) (n := n) (v := v) (us := us) (ct := ct) (by omega)) (cwV 0 hts (gx_goodV wd_158 wd_160 ws_0 wd_1 wd_161) rfl rfl rfl (by decide +kernel) ⟨Nat.le_of_ble_eq_true rfl, Nat.le_of_ble_eq_true rfl⟩) (gc_preV (gc_recv hP hG (ci := 4) rfl (q0 := 15) rfl) hP hG) rfl rfl hl.1 rfl (lv_room (Nat.le_of_ble_eq_true rfl)) d_MT_makeFromParts_17 ⟨Nat.le_refl _, Nat.le_refl _⟩).run (fun r hr17 => ?_)
      subst hr17
      refine lv_if_eq (tgt := 25) hx hb d_MT_makeFromParts_20 (by decide) (mt_z fun hc20 => ?_) (mt_nz fun hc20 => ?_)
      · ---- 5F 13F 20T
        have hnf : n < 12 := by have := of_decide_eq_false hc20; omega
        refine lv_aload_n hx hb d_MT_makeFromParts_25 rfl (lv_at hl 0 rfl) ?_
        refine va_get (D := g.1) (own := R_MT) (ref := R_MT) (ci := 4) (v := .ref (ad 0)) (C := R_MT) (T := F_MT) (N := 2) hx hb hts in_MT hown hG.1 hP 15 rfl rfl 0 (by decide) (hts _ wd_147) (fun _ h9 => h9) rfl d_MT_makeFromParts_26 ?_
        refine va_getN (D := g.1) (own := R_MT) (ref := R_MG) (ci := 2) (v := .ref (ad 1)) (C := R_MG) (T := F_MG) (N := 6) hx hb hts in_MG hown hG.1 hP 0 rfl rfl 0 (by decide) (va_Nw.use rfl (hG.2.1 _ nw_10)) (fun _ h9 => h9) rfl d_MT_makeFromParts_29 ?_
        refine lv_iload_n hx hb d_MT_makeFromParts_32 rfl (lv_at hl 1 rfl) ?_
        refine lv_iload_n hx hb d_MT_makeFromParts_33 rfl (lv_at hl 2 rfl) ?_
        refine mt_ri (y := nI i) hxi_i.2 ?_
        refine lv_iload_n hx hb d_MT_makeFromParts_34 rfl (lv_at hl 3 rfl) ?_
        refine mt_ri (y := nI j) hxi_j.2 ?_
        refine vp_callSi (va_runV (own := R_MT) (As := [.int (nI kk), .int (nI i), .int (nI j)]) (rest := []) ⟨hx, hb, hml, hown, hts⟩ (c_TT_depthOf (l := l) (g := g) (ad := ad) (so := so) (sw := sw) (I := I) (n := n) (v := v) (us := us) (ct := ct) (dp := dp) (fc := fc) (kk := kk) (x := i) (y := j) hE hn hdp (by omega) (fun _ _ => ⟨by omega, by omega⟩)) (cwV 3 hts (gx_goodV wd_256 wd_171 wd_172 wd_3 wd_173) rfl rfl rfl (by decide +kernel) ⟨Nat.le_of_ble_eq_true rfl, Nat.le_of_ble_eq_true rfl⟩) (gc_preV (gc_recv hP hG (ci := 1) rfl (q0 := 1) rfl) hP hG) rfl rfl hl.1 rfl (lv_room (Nat.le_of_ble_eq_true rfl)) d_MT_makeFromParts_35 ⟨Nat.le_refl _, Nat.le_refl _⟩).run (fun r hr35 => ?_)
        subst hr35
        refine lv_iconst (v := nI 5) hx hb d_MT_makeFromParts_38 (by decide) ?_
        refine lv_icmp_le (tgt := 44) hx hb d_MT_makeFromParts_39 (by decide) (mt_le (by have h7 := hdp i hlt_i; have h8 := hdp j hlt_j; have h9 : mt_dd kk (dp i) (dp j) ≤ 6 := mt_dd_le h7 h8; omega) (by omega) fun hc39 => ?_) (mt_nle (by have h7 := hdp i hlt_i; have h8 := hdp j hlt_j; have h9 : mt_dd kk (dp i) (dp j) ≤ 6 := mt_dd_le h7 h8; omega) (by omega) fun hc39 => ?_)
        · ---- 5F 13F 20T 39T
          refine lv_aload_n hx hb d_MT_makeFromParts_44 rfl (lv_at hl 0 rfl) ?_
          refine va_get (D := g.1) (own := R_MT) (ref := R_MT) (ci := 4) (v := .ref (ad 0)) (C := R_MT) (T := F_MT) (N := 2) hx hb hts in_MT hown hG.1 hP 15 rfl rfl 0 (by decide) (hts _ wd_147) (fun _ h9 => h9) rfl d_MT_makeFromParts_45 ?_
          refine lv_iload_n hx hb d_MT_makeFromParts_48 rfl (lv_at hl 1 rfl) ?_
          refine lv_iload_n hx hb d_MT_makeFromParts_49 rfl (lv_at hl 2 rfl) ?_
          refine mt_ri (y := nI i) hxi_i.2 ?_
          refine lv_iload_n hx hb d_MT_makeFromParts_50 rfl (lv_at hl 3 rfl) ?_
          refine mt_ri (y := nI j) hxi_j.2 ?_
          have hw9 : mt_wf (va_up k n kk) (va_up a n i) (va_up b n j) (n + 1) := mt_wf_add hw (by omega) (fun _ _ => ⟨hlt_i, hlt_j⟩) (by omega) (by omega)
          refine gc_cwi (va_runV (own := R_MT) (As := [.int (nI kk), .int (nI i), .int (nI j)]) (rest := []) ⟨hx, hb, hml, hown, hts⟩ (c_MG_add (l := l) (g := g) (ad := ad) (so := so) (sw := sw) (I := I) (n := n) (v := v) (us := us) (ct := ct) (k := (va_up k n kk)) (a := (va_up a n i)) (b := (va_up b n j)) (dp := dp) (fc := fc) (kk := kk) (x := i) (y := j) (mt_TR_up hT) hE hn12 hdp (by omega) (fun _ _ => ⟨hlt_i, hlt_j⟩) hw9 (va_up_self _ _ _) (va_up_self _ _ _) (fun _ => va_up_self _ _ _) (mt_RW_up hR hw)) (cwV 3 hts (gx_goodV wd_162 wd_163 wd_164 wd_2 wd_165) rfl rfl rfl (by decide +kernel) ⟨Nat.le_of_ble_eq_true rfl, Nat.le_of_ble_eq_true rfl⟩) (gc_preVW (gc_recv hP hG (ci := 2) rfl (q0 := 0) rfl) hP hG hD) rfl rfl hl.1 rfl (lv_room (Nat.le_of_ble_eq_true rfl)) d_MT_makeFromParts_51 ⟨Nat.le_refl _, Nat.le_refl _⟩) hD hS (fun r9 u9 H locs hr9 hP hD hS => ?_)
          obtain ⟨J, us9, ct9⟩ := u9
          dsimp only at hP hD hr9
          obtain ⟨hr8, hJ, hR9⟩ := hr9
          subst hr8
          have hP : va_P g.1 gx_cl (cW g ad so sw J (n + 1) v us9 ct9) H := hP
          have hD : va_D (gx_in (cW g ad so sw I n v us ct)) (cW g ad so sw J (n + 1) v us9 ct9) := hD
          exact gc_retwi (u := (J, n + 1, v, us9, ct9)) (Wf := fun (u : gST) => cW g ad so sw u.1 u.2.1 u.2.2.1 u.2.2.2.1 u.2.2.2.2) (post := fun r (u : gST) => ∃ T, sp_cmb (n, k, a, b, dp, fc) kk x y r T ∧ mt_CR u T (v, vk, va, vb, vl)) hx hb hr hlk (⟨_, Or.inl ⟨i, j, ⟨hxi_i, hxi_j, hnf, hc39⟩, rfl, rfl⟩, mt_CR_addT hC hnf hJ (fun _ => rfl) hc39 hw9 hR9⟩) hP hD hS d_MT_makeFromParts_54
        · ---- 5F 13F 20T 39F
          refine lv_iconst (v := -1) hx hb d_MT_makeFromParts_42 (by decide) ?_
          exact gc_retwi (u := (I, n, v, us, ct)) (Wf := fun (u : gST) => cW g ad so sw u.1 u.2.1 u.2.2.1 u.2.2.2.1 u.2.2.2.2) (post := fun r (u : gST) => ∃ T, sp_cmb (n, k, a, b, dp, fc) kk x y r T ∧ mt_CR u T (v, vk, va, vb, vl)) hx hb hr hlk (⟨(n, k, a, b, dp, fc), Or.inr ⟨(fun ⟨i9, j9, h1⟩ => by have e1 := sp_is_inj (show n ≤ 100 by omega) h1.1 hxi_i; have e2 := sp_is_inj (show n ≤ 100 by omega) h1.2.1 hxi_j; subst e1; subst e2; exact absurd h1.2.2.2 (Nat.not_le.mpr hc39)), rfl, rfl⟩, hC⟩) hP hD hS d_MT_makeFromParts_43
      · ---- 5F 13F 20F
        refine lv_iconst (v := -1) hx hb d_MT_makeFromParts_23 (by decide) ?_
        exact gc_retwi (u := (I, n, v, us, ct)) (Wf := fun (u : gST) => cW g ad so sw u.1 u.2.1 u.2.2.1 u.2.2.2.1 u.2.2.2.2) (post := fun r (u : gST) => ∃ T, sp_cmb (n, k, a, b, dp, fc) kk x y r T ∧ mt_CR u T (v, vk, va, vb, vl)) hx hb hr hlk (⟨(n, k, a, b, dp, fc), Or.inr ⟨(fun ⟨_, _, h1⟩ => absurd h1.2.2.1 (by have := of_decide_eq_true hc20; exact Nat.not_lt.mpr this)), rfl, rfl⟩, hC⟩) hP hD hS d_MT_makeFromParts_24

set_option maxHeartbeats 4000000 in
set_option maxRecDepth 100000 in
theorem c_MT_product {g : gG} {ad so sw : Nat → Nat} {I : Nat → Nat → Int32} {n v : Nat} {us : Nat → Nat} {ct : Nat → Nat → Int64}{k a b : Nat → Nat} {dp : Nat → Nat} {fc : Nat → Bool} {vk va vb vl : Nat → Nat} {x y : Int32} {l : Launch} (hC : mt_CR (I, n, v, us, ct) (n, k, a, b, dp, fc) (v, vk, va, vb, vl))  :
    gc_RW (S := gST) l y_MT_product (gx_ws y_MT_product b_MT_product 3 (some .int)) 7 165 g [.ref (ad 15), .int x, .int y] (cW g ad so sw I n v us ct) (fun (u : gST) => cW g ad so sw u.1 u.2.1 u.2.2.1 u.2.2.2.1 u.2.2.2.2) (fun r (u : gST) => ∃ T, sp_cmb (n, k, a, b, dp, fc) 1 x y r T ∧ mt_CR u T (v, vk, va, vb, vl)) := by
  refine gx_body (by decide) (Nat.le_of_ble_eq_true rfl) ?_
  intro p e s m below meth c ls hAt hB hl
  obtain ⟨hx, hb, hml, hown, hts, hr, hlk, hnm⟩ := hAt
  have hown : s.vm.findClass R_MT = some m.cls := hown
  obtain ⟨⟨hP, hG⟩, hD0⟩ := hB
  have hD := gx_D.self hD0
  have hS : va_S (gx_in (cW g ad so sw I n v us ct)) s.heap s.heap [] := va_S.rf
  have hl : lv_has ls 3 [(0, .ref (ad 15)), (1, .int x), (2, .int y)] := hl
  have hC0 := hC
  obtain ⟨-, -, hn12, hT, hE, hw, hdp, hR, hv20, hV, hvw⟩ := hC0
  have hn : n ≤ 13 := by omega
  have hRn := hR n (Nat.le_refl n)
  have hun := hRn.1
  refine lv_aload_n hx hb d_MT_product_0 rfl (lv_at hl 0 rfl) ?_
  refine lv_iconst (v := nI 1) hx hb d_MT_product_1 (by decide) ?_
  refine lv_iload_n hx hb d_MT_product_2 rfl (lv_at hl 1 rfl) ?_
  refine lv_iload_n hx hb d_MT_product_3 rfl (lv_at hl 2 rfl) ?_
  refine gc_cwi (va_runV (own := R_MT) (As := [.int (nI 1), .int x, .int y]) (rest := []) ⟨hx, hb, hml, hown, hts⟩ (c_MT_makeFromParts (l := l) (g := g) (ad := ad) (so := so) (sw := sw) (I := I) (n := n) (v := v) (us := us) (ct := ct) (k := k) (a := a) (b := b) (dp := dp) (fc := fc) (vk := vk) (va := va) (vb := vb) (vl := vl) (kk := 1) (x := x) (y := y) hC (by decide)) (cwV 3 hts (gx_goodV wd_248 wd_250 ws_8 wd_1 wd_251) rfl rfl rfl (by decide +kernel) ⟨Nat.le_of_ble_eq_true rfl, Nat.le_of_ble_eq_true rfl⟩) (gc_preVW (gc_recv hP hG (ci := 4) rfl (q0 := 15) rfl) hP hG hD) rfl rfl hl.1 rfl (lv_room (Nat.le_of_ble_eq_true rfl)) d_MT_product_4 ⟨Nat.le_refl _, Nat.le_refl _⟩) hD hS (fun r9 u9 H locs hr9 hP hD hS => ?_)
  exact gc_retwi (u := u9) (Wf := fun (u : gST) => cW g ad so sw u.1 u.2.1 u.2.2.1 u.2.2.2.1 u.2.2.2.2) (post := fun r (u : gST) => ∃ T, sp_cmb (n, k, a, b, dp, fc) 1 x y r T ∧ mt_CR u T (v, vk, va, vb, vl)) hx hb hr hlk (hr9) hP hD hS d_MT_product_7

set_option maxHeartbeats 4000000 in
set_option maxRecDepth 100000 in
theorem c_MT_arrow {g : gG} {ad so sw : Nat → Nat} {I : Nat → Nat → Int32} {n v : Nat} {us : Nat → Nat} {ct : Nat → Nat → Int64}{k a b : Nat → Nat} {dp : Nat → Nat} {fc : Nat → Bool} {vk va vb vl : Nat → Nat} {x y : Int32} {l : Launch} (hC : mt_CR (I, n, v, us, ct) (n, k, a, b, dp, fc) (v, vk, va, vb, vl))  :
    gc_RW (S := gST) l y_MT_arrow (gx_ws y_MT_arrow b_MT_arrow 3 (some .int)) 7 165 g [.ref (ad 15), .int x, .int y] (cW g ad so sw I n v us ct) (fun (u : gST) => cW g ad so sw u.1 u.2.1 u.2.2.1 u.2.2.2.1 u.2.2.2.2) (fun r (u : gST) => ∃ T, sp_cmb (n, k, a, b, dp, fc) 2 x y r T ∧ mt_CR u T (v, vk, va, vb, vl)) := by
  refine gx_body (by decide) (Nat.le_of_ble_eq_true rfl) ?_
  intro p e s m below meth c ls hAt hB hl
  obtain ⟨hx, hb, hml, hown, hts, hr, hlk, hnm⟩ := hAt
  have hown : s.vm.findClass R_MT = some m.cls := hown
  obtain ⟨⟨hP, hG⟩, hD0⟩ := hB
  have hD := gx_D.self hD0
  have hS : va_S (gx_in (cW g ad so sw I n v us ct)) s.heap s.heap [] := va_S.rf
  have hl : lv_has ls 3 [(0, .ref (ad 15)), (1, .int x), (2, .int y)] := hl
  have hC0 := hC
  obtain ⟨-, -, hn12, hT, hE, hw, hdp, hR, hv20, hV, hvw⟩ := hC0
  have hn : n ≤ 13 := by omega
  have hRn := hR n (Nat.le_refl n)
  have hun := hRn.1
  refine lv_aload_n hx hb d_MT_arrow_0 rfl (lv_at hl 0 rfl) ?_
  refine lv_iconst (v := nI 2) hx hb d_MT_arrow_1 (by decide) ?_
  refine lv_iload_n hx hb d_MT_arrow_2 rfl (lv_at hl 1 rfl) ?_
  refine lv_iload_n hx hb d_MT_arrow_3 rfl (lv_at hl 2 rfl) ?_
  refine gc_cwi (va_runV (own := R_MT) (As := [.int (nI 2), .int x, .int y]) (rest := []) ⟨hx, hb, hml, hown, hts⟩ (c_MT_makeFromParts (l := l) (g := g) (ad := ad) (so := so) (sw := sw) (I := I) (n := n) (v := v) (us := us) (ct := ct) (k := k) (a := a) (b := b) (dp := dp) (fc := fc) (vk := vk) (va := va) (vb := vb) (vl := vl) (kk := 2) (x := x) (y := y) hC (by decide)) (cwV 3 hts (gx_goodV wd_248 wd_250 ws_8 wd_1 wd_251) rfl rfl rfl (by decide +kernel) ⟨Nat.le_of_ble_eq_true rfl, Nat.le_of_ble_eq_true rfl⟩) (gc_preVW (gc_recv hP hG (ci := 4) rfl (q0 := 15) rfl) hP hG hD) rfl rfl hl.1 rfl (lv_room (Nat.le_of_ble_eq_true rfl)) d_MT_arrow_4 ⟨Nat.le_refl _, Nat.le_refl _⟩) hD hS (fun r9 u9 H locs hr9 hP hD hS => ?_)
  exact gc_retwi (u := u9) (Wf := fun (u : gST) => cW g ad so sw u.1 u.2.1 u.2.2.1 u.2.2.2.1 u.2.2.2.2) (post := fun r (u : gST) => ∃ T, sp_cmb (n, k, a, b, dp, fc) 2 x y r T ∧ mt_CR u T (v, vk, va, vb, vl)) hx hb hr hlk (hr9) hP hD hS d_MT_arrow_7

set_option maxHeartbeats 4000000 in
set_option maxRecDepth 100000 in
theorem c_MT_union {g : gG} {ad so sw : Nat → Nat} {I : Nat → Nat → Int32} {n v : Nat} {us : Nat → Nat} {ct : Nat → Nat → Int64}{k a b : Nat → Nat} {dp : Nat → Nat} {fc : Nat → Bool} {vk va vb vl : Nat → Nat} {x y : Int32} {l : Launch} (hC : mt_CR (I, n, v, us, ct) (n, k, a, b, dp, fc) (v, vk, va, vb, vl))  :
    gc_RW (S := gST) l y_MT_union (gx_ws y_MT_union b_MT_union 3 (some .int)) 7 165 g [.ref (ad 15), .int x, .int y] (cW g ad so sw I n v us ct) (fun (u : gST) => cW g ad so sw u.1 u.2.1 u.2.2.1 u.2.2.2.1 u.2.2.2.2) (fun r (u : gST) => ∃ T, sp_cmb (n, k, a, b, dp, fc) 3 x y r T ∧ mt_CR u T (v, vk, va, vb, vl)) := by
  refine gx_body (by decide) (Nat.le_of_ble_eq_true rfl) ?_
  intro p e s m below meth c ls hAt hB hl
  obtain ⟨hx, hb, hml, hown, hts, hr, hlk, hnm⟩ := hAt
  have hown : s.vm.findClass R_MT = some m.cls := hown
  obtain ⟨⟨hP, hG⟩, hD0⟩ := hB
  have hD := gx_D.self hD0
  have hS : va_S (gx_in (cW g ad so sw I n v us ct)) s.heap s.heap [] := va_S.rf
  have hl : lv_has ls 3 [(0, .ref (ad 15)), (1, .int x), (2, .int y)] := hl
  have hC0 := hC
  obtain ⟨-, -, hn12, hT, hE, hw, hdp, hR, hv20, hV, hvw⟩ := hC0
  have hn : n ≤ 13 := by omega
  have hRn := hR n (Nat.le_refl n)
  have hun := hRn.1
  refine lv_aload_n hx hb d_MT_union_0 rfl (lv_at hl 0 rfl) ?_
  refine lv_iconst (v := nI 3) hx hb d_MT_union_1 (by decide) ?_
  refine lv_iload_n hx hb d_MT_union_2 rfl (lv_at hl 1 rfl) ?_
  refine lv_iload_n hx hb d_MT_union_3 rfl (lv_at hl 2 rfl) ?_
  refine gc_cwi (va_runV (own := R_MT) (As := [.int (nI 3), .int x, .int y]) (rest := []) ⟨hx, hb, hml, hown, hts⟩ (c_MT_makeFromParts (l := l) (g := g) (ad := ad) (so := so) (sw := sw) (I := I) (n := n) (v := v) (us := us) (ct := ct) (k := k) (a := a) (b := b) (dp := dp) (fc := fc) (vk := vk) (va := va) (vb := vb) (vl := vl) (kk := 3) (x := x) (y := y) hC (by decide)) (cwV 3 hts (gx_goodV wd_248 wd_250 ws_8 wd_1 wd_251) rfl rfl rfl (by decide +kernel) ⟨Nat.le_of_ble_eq_true rfl, Nat.le_of_ble_eq_true rfl⟩) (gc_preVW (gc_recv hP hG (ci := 4) rfl (q0 := 15) rfl) hP hG hD) rfl rfl hl.1 rfl (lv_room (Nat.le_of_ble_eq_true rfl)) d_MT_union_4 ⟨Nat.le_refl _, Nat.le_refl _⟩) hD hS (fun r9 u9 H locs hr9 hP hD hS => ?_)
  exact gc_retwi (u := u9) (Wf := fun (u : gST) => cW g ad so sw u.1 u.2.1 u.2.2.1 u.2.2.2.1 u.2.2.2.2) (post := fun r (u : gST) => ∃ T, sp_cmb (n, k, a, b, dp, fc) 3 x y r T ∧ mt_CR u T (v, vk, va, vb, vl)) hx hb hr hlk (hr9) hP hD hS d_MT_union_7

set_option maxHeartbeats 4000000 in
set_option maxRecDepth 100000 in
theorem c_MT_meet {g : gG} {ad so sw : Nat → Nat} {I : Nat → Nat → Int32} {n v : Nat} {us : Nat → Nat} {ct : Nat → Nat → Int64}{k a b : Nat → Nat} {dp : Nat → Nat} {fc : Nat → Bool} {vk va vb vl : Nat → Nat} {x y : Int32} {l : Launch} (hC : mt_CR (I, n, v, us, ct) (n, k, a, b, dp, fc) (v, vk, va, vb, vl))  :
    gc_RW (S := gST) l y_MT_meet (gx_ws y_MT_meet b_MT_meet 3 (some .int)) 7 165 g [.ref (ad 15), .int x, .int y] (cW g ad so sw I n v us ct) (fun (u : gST) => cW g ad so sw u.1 u.2.1 u.2.2.1 u.2.2.2.1 u.2.2.2.2) (fun r (u : gST) => ∃ T, sp_cmb (n, k, a, b, dp, fc) 4 x y r T ∧ mt_CR u T (v, vk, va, vb, vl)) := by
  refine gx_body (by decide) (Nat.le_of_ble_eq_true rfl) ?_
  intro p e s m below meth c ls hAt hB hl
  obtain ⟨hx, hb, hml, hown, hts, hr, hlk, hnm⟩ := hAt
  have hown : s.vm.findClass R_MT = some m.cls := hown
  obtain ⟨⟨hP, hG⟩, hD0⟩ := hB
  have hD := gx_D.self hD0
  have hS : va_S (gx_in (cW g ad so sw I n v us ct)) s.heap s.heap [] := va_S.rf
  have hl : lv_has ls 3 [(0, .ref (ad 15)), (1, .int x), (2, .int y)] := hl
  have hC0 := hC
  obtain ⟨-, -, hn12, hT, hE, hw, hdp, hR, hv20, hV, hvw⟩ := hC0
  have hn : n ≤ 13 := by omega
  have hRn := hR n (Nat.le_refl n)
  have hun := hRn.1
  refine lv_aload_n hx hb d_MT_meet_0 rfl (lv_at hl 0 rfl) ?_
  refine lv_iconst (v := nI 4) hx hb d_MT_meet_1 (by decide) ?_
  refine lv_iload_n hx hb d_MT_meet_2 rfl (lv_at hl 1 rfl) ?_
  refine lv_iload_n hx hb d_MT_meet_3 rfl (lv_at hl 2 rfl) ?_
  refine gc_cwi (va_runV (own := R_MT) (As := [.int (nI 4), .int x, .int y]) (rest := []) ⟨hx, hb, hml, hown, hts⟩ (c_MT_makeFromParts (l := l) (g := g) (ad := ad) (so := so) (sw := sw) (I := I) (n := n) (v := v) (us := us) (ct := ct) (k := k) (a := a) (b := b) (dp := dp) (fc := fc) (vk := vk) (va := va) (vb := vb) (vl := vl) (kk := 4) (x := x) (y := y) hC (by decide)) (cwV 3 hts (gx_goodV wd_248 wd_250 ws_8 wd_1 wd_251) rfl rfl rfl (by decide +kernel) ⟨Nat.le_of_ble_eq_true rfl, Nat.le_of_ble_eq_true rfl⟩) (gc_preVW (gc_recv hP hG (ci := 4) rfl (q0 := 15) rfl) hP hG hD) rfl rfl hl.1 rfl (lv_room (Nat.le_of_ble_eq_true rfl)) d_MT_meet_4 ⟨Nat.le_refl _, Nat.le_refl _⟩) hD hS (fun r9 u9 H locs hr9 hP hD hS => ?_)
  exact gc_retwi (u := u9) (Wf := fun (u : gST) => cW g ad so sw u.1 u.2.1 u.2.2.1 u.2.2.2.1 u.2.2.2.2) (post := fun r (u : gST) => ∃ T, sp_cmb (n, k, a, b, dp, fc) 4 x y r T ∧ mt_CR u T (v, vk, va, vb, vl)) hx hb hr hlk (hr9) hP hD hS d_MT_meet_7

set_option maxHeartbeats 4000000 in
set_option maxRecDepth 100000 in
theorem c_MT_not {g : gG} {ad so sw : Nat → Nat} {I : Nat → Nat → Int32} {n v : Nat} {us : Nat → Nat} {ct : Nat → Nat → Int64}{k a b : Nat → Nat} {dp : Nat → Nat} {fc : Nat → Bool} {vk va vb vl : Nat → Nat} {x : Int32} {l : Launch} (hC : mt_CR (I, n, v, us, ct) (n, k, a, b, dp, fc) (v, vk, va, vb, vl))  :
    gc_RW (S := gST) l y_MT_not (gx_ws y_MT_not b_MT_not 2 (some .int)) 7 165 g [.ref (ad 15), .int x] (cW g ad so sw I n v us ct) (fun (u : gST) => cW g ad so sw u.1 u.2.1 u.2.2.1 u.2.2.2.1 u.2.2.2.2) (fun r (u : gST) => ∃ T, sp_cmb (n, k, a, b, dp, fc) 5 x x r T ∧ mt_CR u T (v, vk, va, vb, vl)) := by
  refine gx_body (by decide) (Nat.le_of_ble_eq_true rfl) ?_
  intro p e s m below meth c ls hAt hB hl
  obtain ⟨hx, hb, hml, hown, hts, hr, hlk, hnm⟩ := hAt
  have hown : s.vm.findClass R_MT = some m.cls := hown
  obtain ⟨⟨hP, hG⟩, hD0⟩ := hB
  have hD := gx_D.self hD0
  have hS : va_S (gx_in (cW g ad so sw I n v us ct)) s.heap s.heap [] := va_S.rf
  have hl : lv_has ls 2 [(0, .ref (ad 15)), (1, .int x)] := hl
  have hC0 := hC
  obtain ⟨-, -, hn12, hT, hE, hw, hdp, hR, hv20, hV, hvw⟩ := hC0
  have hn : n ≤ 13 := by omega
  have hRn := hR n (Nat.le_refl n)
  have hun := hRn.1
  refine lv_aload_n hx hb d_MT_not_0 rfl (lv_at hl 0 rfl) ?_
  refine lv_iconst (v := nI 5) hx hb d_MT_not_1 (by decide) ?_
  refine lv_iload_n hx hb d_MT_not_2 rfl (lv_at hl 1 rfl) ?_
  refine lv_iload_n hx hb d_MT_not_3 rfl (lv_at hl 1 rfl) ?_
  refine gc_cwi (va_runV (own := R_MT) (As := [.int (nI 5), .int x, .int x]) (rest := []) ⟨hx, hb, hml, hown, hts⟩ (c_MT_makeFromParts (l := l) (g := g) (ad := ad) (so := so) (sw := sw) (I := I) (n := n) (v := v) (us := us) (ct := ct) (k := k) (a := a) (b := b) (dp := dp) (fc := fc) (vk := vk) (va := va) (vb := vb) (vl := vl) (kk := 5) (x := x) (y := x) hC (by decide)) (cwV 3 hts (gx_goodV wd_248 wd_250 ws_8 wd_1 wd_251) rfl rfl rfl (by decide +kernel) ⟨Nat.le_of_ble_eq_true rfl, Nat.le_of_ble_eq_true rfl⟩) (gc_preVW (gc_recv hP hG (ci := 4) rfl (q0 := 15) rfl) hP hG hD) rfl rfl hl.1 rfl (lv_room (Nat.le_of_ble_eq_true rfl)) d_MT_not_4 ⟨Nat.le_refl _, Nat.le_refl _⟩) hD hS (fun r9 u9 H locs hr9 hP hD hS => ?_)
  exact gc_retwi (u := u9) (Wf := fun (u : gST) => cW g ad so sw u.1 u.2.1 u.2.2.1 u.2.2.2.1 u.2.2.2.2) (post := fun r (u : gST) => ∃ T, sp_cmb (n, k, a, b, dp, fc) 5 x x r T ∧ mt_CR u T (v, vk, va, vb, vl)) hx hb hr hlk (hr9) hP hD hS d_MT_not_7

set_option maxHeartbeats 4000000 in
set_option maxRecDepth 100000 in
theorem c_MT_constants {g : gG} {ad so sw : Nat → Nat} {I : Nat → Nat → Int32} {n v : Nat} {us : Nat → Nat} {ct : Nat → Nat → Int64}{k a b : Nat → Nat} {dp : Nat → Nat} {fc : Nat → Bool} {vk va vb vl : Nat → Nat} {x : Int32} {l : Launch} (hC : mt_CR (I, n, v, us, ct) (n, k, a, b, dp, fc) (v, vk, va, vb, vl))  :
    gc_RW (S := gST) l y_MT_constants (gx_ws y_MT_constants b_MT_constants 2 (some .int)) 6 142 g [.ref (ad 15), .int x] (cW g ad so sw I n v us ct) (fun (u : gST) => cW g ad so sw u.1 u.2.1 u.2.2.1 u.2.2.2.1 u.2.2.2.2) (fun r (u : gST) => ∃ T, sp_cst (n, k, a, b, dp, fc) x r T ∧ mt_CR u T (v, vk, va, vb, vl)) := by
  refine gx_body (by decide) (Nat.le_of_ble_eq_true rfl) ?_
  intro p e s m below meth c ls hAt hB hl
  obtain ⟨hx, hb, hml, hown, hts, hr, hlk, hnm⟩ := hAt
  have hown : s.vm.findClass R_MT = some m.cls := hown
  obtain ⟨⟨hP, hG⟩, hD0⟩ := hB
  have hD := gx_D.self hD0
  have hS : va_S (gx_in (cW g ad so sw I n v us ct)) s.heap s.heap [] := va_S.rf
  have hl : lv_has ls 2 [(0, .ref (ad 15)), (1, .int x)] := hl
  have hC0 := hC
  obtain ⟨-, -, hn12, hT, hE, hw, hdp, hR, hv20, hV, hvw⟩ := hC0
  have hn : n ≤ 13 := by omega
  have hRn := hR n (Nat.le_refl n)
  have hun := hRn.1
  refine lv_iload_n hx hb d_MT_constants_0 rfl (lv_at hl 1 rfl) ?_
  refine lv_if_lt (tgt := 17) hx hb d_MT_constants_1 (by decide) (fun hc1 => ?_) (fun hc1 => ?_)
  · ---- 1T
    refine lv_iconst (v := -1) hx hb d_MT_constants_17 (by decide) ?_
    exact gc_retwi (u := (I, n, v, us, ct)) (Wf := fun (u : gST) => cW g ad so sw u.1 u.2.1 u.2.2.1 u.2.2.2.1 u.2.2.2.2) (post := fun r (u : gST) => ∃ T, sp_cst (n, k, a, b, dp, fc) x r T ∧ mt_CR u T (v, vk, va, vb, vl)) hx hb hr hlk (⟨(n, k, a, b, dp, fc), Or.inr ⟨(fun ⟨i9, h1, _⟩ => absurd hc1 (by rw [h1.2]; exact nI_pos (by have := h1.1; omega))), rfl, rfl⟩, hC⟩) hP hD hS d_MT_constants_18
  · ---- 1F
    refine lv_iload_n hx hb d_MT_constants_4 rfl (lv_at hl 1 rfl) ?_
    refine lv_bipush (v := nI 63) hx hb d_MT_constants_5 (by decide) ?_
    refine lv_icmp_gt (tgt := 17) hx hb d_MT_constants_7 (by decide) (fun hc7 => ?_) (fun hc7 => ?_)
    · ---- 1F 7T
      refine lv_iconst (v := -1) hx hb d_MT_constants_17 (by decide) ?_
      exact gc_retwi (u := (I, n, v, us, ct)) (Wf := fun (u : gST) => cW g ad so sw u.1 u.2.1 u.2.2.1 u.2.2.2.1 u.2.2.2.2) (post := fun r (u : gST) => ∃ T, sp_cst (n, k, a, b, dp, fc) x r T ∧ mt_CR u T (v, vk, va, vb, vl)) hx hb hr hlk (⟨(n, k, a, b, dp, fc), Or.inr ⟨(fun ⟨i9, h1, _⟩ => absurd hc7 (by rw [h1.2]; exact nI_nlt (by have := h1.1; omega) (by decide))), rfl, rfl⟩, hC⟩) hP hD hS d_MT_constants_18
    · ---- 1F 7F
      obtain ⟨i, hxi_i⟩ := mt_64 hc1 hc7
      have hlt_i := hxi_i.1
      refine lv_aload_n hx hb d_MT_constants_10 rfl (lv_at hl 0 rfl) ?_
      refine vp_callSi (va_runV (own := R_MT) (As := []) (rest := []) ⟨hx, hb, hml, hown, hts⟩ (c_MT_isFull (l := l) (g := g) (ad := ad) (so := so) (sw := sw) (I := I) (n := n) (v := v) (us := us) (ct := ct) (by omega)) (cwV 0 hts (gx_goodV wd_158 wd_160 ws_0 wd_1 wd_161) rfl rfl rfl (by decide +kernel) ⟨Nat.le_of_ble_eq_true rfl, Nat.le_of_ble_eq_true rfl⟩) (gc_preV (gc_recv hP hG (ci := 4) rfl (q0 := 15) rfl) hP hG) rfl rfl hl.1 rfl (lv_room (Nat.le_of_ble_eq_true rfl)) d_MT_constants_11 ⟨Nat.le_refl _, Nat.le_refl _⟩).run (fun r hr11 => ?_)
      subst hr11
      refine lv_if_eq (tgt := 19) hx hb d_MT_constants_14 (by decide) (mt_z fun hc14 => ?_) (mt_nz fun hc14 => ?_)
      · ---- 1F 7F 14T
        have hnf : n < 12 := by have := of_decide_eq_false hc14; omega
        refine lv_aload_n hx hb d_MT_constants_19 rfl (lv_at hl 0 rfl) ?_
        refine va_get (D := g.1) (own := R_MT) (ref := R_MT) (ci := 4) (v := .ref (ad 0)) (C := R_MT) (T := F_MT) (N := 2) hx hb hts in_MT hown hG.1 hP 15 rfl rfl 0 (by decide) (hts _ wd_147) (fun _ h9 => h9) rfl d_MT_constants_20 ?_
        refine lv_iconst (v := nI 0) hx hb d_MT_constants_23 (by decide) ?_
        refine lv_iload_n hx hb d_MT_constants_24 rfl (lv_at hl 1 rfl) ?_
        refine mt_ri (y := nI i) hxi_i.2 ?_
        refine lv_iload_n hx hb d_MT_constants_25 rfl (lv_at hl 1 rfl) ?_
        refine mt_ri (y := nI i) hxi_i.2 ?_
        have hw9 : mt_wf (va_up k n 0) (va_up a n i) (va_up b n 0) (n + 1) := mt_wf_add hw (by omega) (fun h9 _ => absurd rfl h9) (by omega) (by omega)
        refine gc_cwi (va_runV (own := R_MT) (As := [.int (nI 0), .int (nI i), .int (nI i)]) (rest := []) ⟨hx, hb, hml, hown, hts⟩ (c_MG_add (l := l) (g := g) (ad := ad) (so := so) (sw := sw) (I := I) (n := n) (v := v) (us := us) (ct := ct) (k := (va_up k n 0)) (a := (va_up a n i)) (b := (va_up b n 0)) (dp := dp) (fc := fc) (kk := 0) (x := i) (y := i) (mt_TR_up hT) hE hn12 hdp (by omega) (fun h9 _ => absurd rfl h9) hw9 (va_up_self _ _ _) (va_up_self _ _ _) (fun h9 => absurd rfl h9) (mt_RW_up hR hw)) (cwV 3 hts (gx_goodV wd_162 wd_163 wd_164 wd_2 wd_165) rfl rfl rfl (by decide +kernel) ⟨Nat.le_of_ble_eq_true rfl, Nat.le_of_ble_eq_true rfl⟩) (gc_preVW (gc_recv hP hG (ci := 2) rfl (q0 := 0) rfl) hP hG hD) rfl rfl hl.1 rfl (lv_room (Nat.le_of_ble_eq_true rfl)) d_MT_constants_26 ⟨Nat.le_refl _, Nat.le_refl _⟩) hD hS (fun r9 u9 H locs hr9 hP hD hS => ?_)
        obtain ⟨J, us9, ct9⟩ := u9
        dsimp only at hP hD hr9
        obtain ⟨hr8, hJ, hR9⟩ := hr9
        subst hr8
        have hP : va_P g.1 gx_cl (cW g ad so sw J (n + 1) v us9 ct9) H := hP
        have hD : va_D (gx_in (cW g ad so sw I n v us ct)) (cW g ad so sw J (n + 1) v us9 ct9) := hD
        exact gc_retwi (u := (J, n + 1, v, us9, ct9)) (Wf := fun (u : gST) => cW g ad so sw u.1 u.2.1 u.2.2.1 u.2.2.2.1 u.2.2.2.2) (post := fun r (u : gST) => ∃ T, sp_cst (n, k, a, b, dp, fc) x r T ∧ mt_CR u T (v, vk, va, vb, vl)) hx hb hr hlk (⟨_, Or.inl ⟨i, hxi_i, hnf, rfl, rfl⟩, mt_CR_addT hC hnf (mt_IN_0 hJ) (fun h9 => absurd rfl h9) (by decide) hw9 hR9⟩) hP hD hS d_MT_constants_29
      · ---- 1F 7F 14F
        refine lv_iconst (v := -1) hx hb d_MT_constants_17 (by decide) ?_
        exact gc_retwi (u := (I, n, v, us, ct)) (Wf := fun (u : gST) => cW g ad so sw u.1 u.2.1 u.2.2.1 u.2.2.2.1 u.2.2.2.2) (post := fun r (u : gST) => ∃ T, sp_cst (n, k, a, b, dp, fc) x r T ∧ mt_CR u T (v, vk, va, vb, vl)) hx hb hr hlk (⟨(n, k, a, b, dp, fc), Or.inr ⟨(fun ⟨_, _, h1⟩ => absurd h1 (by have := of_decide_eq_true hc14; exact Nat.not_lt.mpr this)), rfl, rfl⟩, hC⟩) hP hD hS d_MT_constants_18

set_option maxHeartbeats 4000000 in
set_option maxRecDepth 100000 in
theorem c_MT_any {g : gG} {ad so sw : Nat → Nat} {I : Nat → Nat → Int32} {n v : Nat} {us : Nat → Nat} {ct : Nat → Nat → Int64}{k a b : Nat → Nat} {dp : Nat → Nat} {fc : Nat → Bool} {vk va vb vl : Nat → Nat}  {l : Launch} (hC : mt_CR (I, n, v, us, ct) (n, k, a, b, dp, fc) (v, vk, va, vb, vl))  :
    gc_RW (S := gST) l y_MT_any (gx_ws y_MT_any b_MT_any 1 (some .int)) 6 142 g [.ref (ad 15)] (cW g ad so sw I n v us ct) (fun (u : gST) => cW g ad so sw u.1 u.2.1 u.2.2.1 u.2.2.2.1 u.2.2.2.2) (fun r (u : gST) => ∃ T, sp_any (n, k, a, b, dp, fc) r T ∧ mt_CR u T (v, vk, va, vb, vl)) := by
  refine gx_body (by decide) (Nat.le_of_ble_eq_true rfl) ?_
  intro p e s m below meth c ls hAt hB hl
  obtain ⟨hx, hb, hml, hown, hts, hr, hlk, hnm⟩ := hAt
  have hown : s.vm.findClass R_MT = some m.cls := hown
  obtain ⟨⟨hP, hG⟩, hD0⟩ := hB
  have hD := gx_D.self hD0
  have hS : va_S (gx_in (cW g ad so sw I n v us ct)) s.heap s.heap [] := va_S.rf
  have hl : lv_has ls 1 [(0, .ref (ad 15))] := hl
  have hC0 := hC
  obtain ⟨-, -, hn12, hT, hE, hw, hdp, hR, hv20, hV, hvw⟩ := hC0
  have hn : n ≤ 13 := by omega
  have hRn := hR n (Nat.le_refl n)
  have hun := hRn.1
  refine lv_aload_n hx hb d_MT_any_0 rfl (lv_at hl 0 rfl) ?_
  refine vp_callSi (va_runV (own := R_MT) (As := []) (rest := []) ⟨hx, hb, hml, hown, hts⟩ (c_MT_isFull (l := l) (g := g) (ad := ad) (so := so) (sw := sw) (I := I) (n := n) (v := v) (us := us) (ct := ct) (by omega)) (cwV 0 hts (gx_goodV wd_158 wd_160 ws_0 wd_1 wd_161) rfl rfl rfl (by decide +kernel) ⟨Nat.le_of_ble_eq_true rfl, Nat.le_of_ble_eq_true rfl⟩) (gc_preV (gc_recv hP hG (ci := 4) rfl (q0 := 15) rfl) hP hG) rfl rfl hl.1 rfl (lv_room (Nat.le_of_ble_eq_true rfl)) d_MT_any_1 ⟨Nat.le_refl _, Nat.le_refl _⟩).run (fun r hr1 => ?_)
  subst hr1
  refine lv_if_eq (tgt := 11) hx hb d_MT_any_4 (by decide) (mt_z fun hc4 => ?_) (mt_nz fun hc4 => ?_)
  · ---- 4T
    have hnf : n < 12 := by have := of_decide_eq_false hc4; omega
    refine lv_aload_n hx hb d_MT_any_11 rfl (lv_at hl 0 rfl) ?_
    refine va_get (D := g.1) (own := R_MT) (ref := R_MT) (ci := 4) (v := .ref (ad 0)) (C := R_MT) (T := F_MT) (N := 2) hx hb hts in_MT hown hG.1 hP 15 rfl rfl 0 (by decide) (hts _ wd_147) (fun _ h9 => h9) rfl d_MT_any_12 ?_
    refine lv_bipush (v := nI 6) hx hb d_MT_any_15 (by decide) ?_
    refine lv_iconst (v := nI 0) hx hb d_MT_any_17 (by decide) ?_
    refine lv_iconst (v := nI 0) hx hb d_MT_any_18 (by decide) ?_
    have hw9 : mt_wf (va_up k n 6) (va_up a n 0) (va_up b n 0) (n + 1) := mt_wf_add hw (by omega) (fun _ h9 => absurd rfl h9) (by omega) (by omega)
    refine gc_cwi (va_runV (own := R_MT) (As := [.int (nI 6), .int (nI 0), .int (nI 0)]) (rest := []) ⟨hx, hb, hml, hown, hts⟩ (c_MG_add (l := l) (g := g) (ad := ad) (so := so) (sw := sw) (I := I) (n := n) (v := v) (us := us) (ct := ct) (k := (va_up k n 6)) (a := (va_up a n 0)) (b := (va_up b n 0)) (dp := dp) (fc := fc) (kk := 6) (x := 0) (y := 0) (mt_TR_up hT) hE hn12 hdp (by omega) (fun _ h9 => absurd rfl h9) hw9 (va_up_self _ _ _) (va_up_self _ _ _) (fun _ => va_up_self _ _ _) (mt_RW_up hR hw)) (cwV 3 hts (gx_goodV wd_162 wd_163 wd_164 wd_2 wd_165) rfl rfl rfl (by decide +kernel) ⟨Nat.le_of_ble_eq_true rfl, Nat.le_of_ble_eq_true rfl⟩) (gc_preVW (gc_recv hP hG (ci := 2) rfl (q0 := 0) rfl) hP hG hD) rfl rfl hl.1 rfl (lv_room (Nat.le_of_ble_eq_true rfl)) d_MT_any_19 ⟨Nat.le_refl _, Nat.le_refl _⟩) hD hS (fun r9 u9 H locs hr9 hP hD hS => ?_)
    obtain ⟨J, us9, ct9⟩ := u9
    dsimp only at hP hD hr9
    obtain ⟨hr8, hJ, hR9⟩ := hr9
    subst hr8
    have hP : va_P g.1 gx_cl (cW g ad so sw J (n + 1) v us9 ct9) H := hP
    have hD : va_D (gx_in (cW g ad so sw I n v us ct)) (cW g ad so sw J (n + 1) v us9 ct9) := hD
    exact gc_retwi (u := (J, n + 1, v, us9, ct9)) (Wf := fun (u : gST) => cW g ad so sw u.1 u.2.1 u.2.2.1 u.2.2.2.1 u.2.2.2.2) (post := fun r (u : gST) => ∃ T, sp_any (n, k, a, b, dp, fc) r T ∧ mt_CR u T (v, vk, va, vb, vl)) hx hb hr hlk (⟨_, Or.inl ⟨hnf, rfl, rfl⟩, mt_CR_addT hC hnf (mt_IN_6 hJ) (fun _ => rfl) (by decide) hw9 hR9⟩) hP hD hS d_MT_any_22
  · ---- 4F
    refine lv_iconst (v := -1) hx hb d_MT_any_7 (by decide) ?_
    refine lv_goto (tgt := 22) hx hb d_MT_any_8 (by decide) ?_
    exact gc_retwi (u := (I, n, v, us, ct)) (Wf := fun (u : gST) => cW g ad so sw u.1 u.2.1 u.2.2.1 u.2.2.2.1 u.2.2.2.2) (post := fun r (u : gST) => ∃ T, sp_any (n, k, a, b, dp, fc) r T ∧ mt_CR u T (v, vk, va, vb, vl)) hx hb hr hlk (⟨(n, k, a, b, dp, fc), Or.inr ⟨Nat.not_lt.mpr (of_decide_eq_true hc4), rfl, rfl⟩, hC⟩) hP hD hS d_MT_any_22
