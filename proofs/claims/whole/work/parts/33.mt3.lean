set_option maxHeartbeats 4000000 in
set_option maxRecDepth 100000 in
theorem c_MT_makeValue {g : gG} {ad so sw : Nat → Nat} {I : Nat → Nat → Int32} {n v : Nat} {us : Nat → Nat} {ct : Nat → Nat → Int64}{k a b : Nat → Nat} {dp : Nat → Nat} {fc : Nat → Bool} {vk va vb vl : Nat → Nat} {kk x y yb lv : Nat} {l : Launch} (hC : mt_CR (I, n, v, us, ct) (n, k, a, b, dp, fc) (v, vk, va, vb, vl)) (hyb : kk = 1 → yb = y) (hk2 : kk ≤ 2) (h0 : kk = 0 → x < 6) (h1 : kk = 1 → x < v ∧ y < v ∧ lv = vl x + vl y) (h2 : kk = 2 → x < n) (hl1 : 1 ≤ lv) (hl8 : lv ≤ 8) :
    gc_RW (S := gST) l y_MT_makeValue (gx_ws y_MT_makeValue b_MT_makeValue 5 (some .int)) 1 25 g [.ref (ad 15), .int (nI kk), .int (nI x), .int (nI y), .int (nI lv)] (cW g ad so sw I n v us ct) (fun (u : gST) => cW g ad so sw u.1 u.2.1 u.2.2.1 u.2.2.2.1 u.2.2.2.2) (fun r (u : gST) => ((v < 20 ∧ lv ≤ 4) ∧ r = nI v ∧ mt_CR u (n, k, a, b, dp, fc) (sp_addV (v, vk, va, vb, vl) kk x yb lv)) ∨ (¬ (v < 20 ∧ lv ≤ 4) ∧ r = -1 ∧ mt_CR u (n, k, a, b, dp, fc) (v, vk, va, vb, vl))) := by
  refine gx_body (by decide) (Nat.le_of_ble_eq_true rfl) ?_
  intro p e s m below meth c ls hAt hB hl
  obtain ⟨hx, hb, hml, hown, hts, hr, hlk, hnm⟩ := hAt
  have hown : s.vm.findClass R_MT = some m.cls := hown
  obtain ⟨⟨hP, hG⟩, hD0⟩ := hB
  have hD := gx_D.self hD0
  have hS : va_S (gx_in (cW g ad so sw I n v us ct)) s.heap s.heap [] := va_S.rf
  have hl : lv_has ls 5 [(0, .ref (ad 15)), (1, .int (nI kk)), (2, .int (nI x)), (3, .int (nI y)), (4, .int (nI lv))] := hl
  have hC0 := hC
  obtain ⟨-, -, hn12, hT, hE, hw, hdp, hR, hv20, hV, hvw⟩ := hC0
  have hn : n ≤ 13 := by omega
  have hRn := hR n (Nat.le_refl n)
  have hun := hRn.1
  refine lv_aload_n hx hb d_MT_makeValue_0 rfl (lv_at hl 0 rfl) ?_
  refine va_get (D := g.1) (own := R_MT) (ref := R_MT) (ci := 4) (v := .ref (ad 8)) (C := R_MT) (T := F_MT) (N := 2) hx hb hts in_MT hown hG.1 hP 15 rfl rfl 1 (by decide) (hts _ wd_148) (fun _ h9 => h9) rfl d_MT_makeValue_1 ?_
  refine va_getN (D := g.1) (own := R_MT) (ref := R_VT) (ci := 3) (v := .int (nI v)) (C := R_VT) (T := F_VT) (N := 8) hx hb hts in_VT hown hG.1 hP 8 rfl rfl 4 (by decide) (va_Nw.use rfl (hG.2.1 _ nw_12)) (fun _ h9 => h9) rfl d_MT_makeValue_4 ?_
  refine lv_bipush (v := nI 20) hx hb d_MT_makeValue_7 (by decide) ?_
  refine lv_icmp_ge (tgt := 18) hx hb d_MT_makeValue_9 (by decide) (mt_le (by omega) (by omega) fun hc9 => ?_) (mt_nle (by omega) (by omega) fun hc9 => ?_)
  · ---- 9T
    refine lv_iconst (v := -1) hx hb d_MT_makeValue_18 (by decide) ?_
    exact gc_retwi (u := (I, n, v, us, ct)) (Wf := fun (u : gST) => cW g ad so sw u.1 u.2.1 u.2.2.1 u.2.2.2.1 u.2.2.2.2) (post := fun r (u : gST) => ((v < 20 ∧ lv ≤ 4) ∧ r = nI v ∧ mt_CR u (n, k, a, b, dp, fc) (sp_addV (v, vk, va, vb, vl) kk x yb lv)) ∨ (¬ (v < 20 ∧ lv ≤ 4) ∧ r = -1 ∧ mt_CR u (n, k, a, b, dp, fc) (v, vk, va, vb, vl))) hx hb hr hlk (Or.inr ⟨(fun h9 => by omega), rfl, hC⟩) hP hD hS d_MT_makeValue_19
  · ---- 9F
    refine lv_iload hx hb d_MT_makeValue_12 (lv_at hl 4 rfl) ?_
    refine lv_iconst (v := nI 4) hx hb d_MT_makeValue_14 (by decide) ?_
    refine lv_icmp_le (tgt := 20) hx hb d_MT_makeValue_15 (by decide) (mt_le (by omega) (by omega) fun hc15 => ?_) (mt_nle (by omega) (by omega) fun hc15 => ?_)
    · ---- 9F 15T
      refine lv_aload_n hx hb d_MT_makeValue_20 rfl (lv_at hl 0 rfl) ?_
      refine va_get (D := g.1) (own := R_MT) (ref := R_MT) (ci := 4) (v := .ref (ad 8)) (C := R_MT) (T := F_MT) (N := 2) hx hb hts in_MT hown hG.1 hP 15 rfl rfl 1 (by decide) (hts _ wd_148) (fun _ h9 => h9) rfl d_MT_makeValue_21 ?_
      refine lv_iload_n hx hb d_MT_makeValue_24 rfl (lv_at hl 1 rfl) ?_
      refine lv_iload_n hx hb d_MT_makeValue_25 rfl (lv_at hl 2 rfl) ?_
      refine lv_iload_n hx hb d_MT_makeValue_26 rfl (lv_at hl 3 rfl) ?_
      refine lv_iload hx hb d_MT_makeValue_27 (lv_at hl 4 rfl) ?_
      refine gc_cwi (va_runV (own := R_MT) (As := [.int (nI kk), .int (nI x), .int (nI y), .int (nI lv)]) (rest := []) ⟨hx, hb, hml, hown, hts⟩ (c_VT_add (l := l) (g := g) (ad := ad) (so := so) (sw := sw) (I := I) (n := n) (v := v) (us := us) (ct := ct) (kk := kk) (x := x) (y := y) (lv := lv) hc9) (cwV 4 hts (gx_goodV wd_319 wd_320 wd_321 wd_6 wd_322) rfl rfl rfl (by decide +kernel) ⟨Nat.le_of_ble_eq_true rfl, Nat.le_of_ble_eq_true rfl⟩) (gc_preVW (gc_recv hP hG (ci := 3) rfl (q0 := 8) rfl) hP hG hD) rfl rfl hl.1 rfl (lv_room (Nat.le_of_ble_eq_true rfl)) d_MT_makeValue_29 ⟨Nat.le_refl _, Nat.le_refl _⟩) hD hS (fun r9 J H locs hr9 hP hD hS => ?_)
      obtain ⟨hr8, hJ⟩ := hr9
      subst hr8
      have hP : va_P g.1 gx_cl (cW g ad so sw J n (v + 1) us ct) H := hP
      have hD : va_D (gx_in (cW g ad so sw I n v us ct)) (cW g ad so sw J n (v + 1) us ct) := hD
      exact gc_retwi (u := (J, n, v + 1, us, ct)) (Wf := fun (u : gST) => cW g ad so sw u.1 u.2.1 u.2.2.1 u.2.2.2.1 u.2.2.2.2) (post := fun r (u : gST) => ((v < 20 ∧ lv ≤ 4) ∧ r = nI v ∧ mt_CR u (n, k, a, b, dp, fc) (sp_addV (v, vk, va, vb, vl) kk x yb lv)) ∨ (¬ (v < 20 ∧ lv ≤ 4) ∧ r = -1 ∧ mt_CR u (n, k, a, b, dp, fc) (v, vk, va, vb, vl))) hx hb hr hlk (Or.inl ⟨⟨hc9, hc15⟩, rfl, mt_CR_addV hC hc9 hJ hyb hk2 h0 h1 h2 ⟨hl1, hc15⟩⟩) hP hD hS d_MT_makeValue_32
    · ---- 9F 15F
      refine lv_iconst (v := -1) hx hb d_MT_makeValue_18 (by decide) ?_
      exact gc_retwi (u := (I, n, v, us, ct)) (Wf := fun (u : gST) => cW g ad so sw u.1 u.2.1 u.2.2.1 u.2.2.2.1 u.2.2.2.2) (post := fun r (u : gST) => ((v < 20 ∧ lv ≤ 4) ∧ r = nI v ∧ mt_CR u (n, k, a, b, dp, fc) (sp_addV (v, vk, va, vb, vl) kk x yb lv)) ∨ (¬ (v < 20 ∧ lv ≤ 4) ∧ r = -1 ∧ mt_CR u (n, k, a, b, dp, fc) (v, vk, va, vb, vl))) hx hb hr hlk (Or.inr ⟨(fun h9 => by omega), rfl, hC⟩) hP hD hS d_MT_makeValue_19

set_option maxHeartbeats 4000000 in
set_option maxRecDepth 100000 in
theorem c_MT_constant {g : gG} {ad so sw : Nat → Nat} {I : Nat → Nat → Int32} {n v : Nat} {us : Nat → Nat} {ct : Nat → Nat → Int64}{k a b : Nat → Nat} {dp : Nat → Nat} {fc : Nat → Bool} {vk va vb vl : Nat → Nat} {x : Int32} {l : Launch} (hC : mt_CR (I, n, v, us, ct) (n, k, a, b, dp, fc) (v, vk, va, vb, vl))  :
    gc_RW (S := gST) l y_MT_constant (gx_ws y_MT_constant b_MT_constant 2 (some .int)) 2 49 g [.ref (ad 15), .int x] (cW g ad so sw I n v us ct) (fun (u : gST) => cW g ad so sw u.1 u.2.1 u.2.2.1 u.2.2.2.1 u.2.2.2.2) (fun r (u : gST) => ∃ V, sp_con (v, vk, va, vb, vl) x r V ∧ mt_CR u (n, k, a, b, dp, fc) V) := by
  refine gx_body (by decide) (Nat.le_of_ble_eq_true rfl) ?_
  intro p e s m below meth c ls hAt hB hl
  obtain ⟨hx, hb, hml, hown, hts, hr, hlk, hnm⟩ := hAt
  have hown : s.vm.findClass R_MT = some m.cls := hown
  obtain ⟨⟨hP, hG⟩, hD0⟩ := hB
  have hD := gx_D.self hD0
  have hS : va_S (gx_in (cW g ad so sw I n v us ct)) s.heap s.heap [] := va_S.rf
  have hl : lv_has ls 2 [(0, .ref (ad 15)), (1, .int x)] := hl
  have hC0 := hC
  obtain ⟨-, -, hn12, hT, hE, hw, hdp, hR, hv20, hV, hvw⟩ := hC0
  have hn : n ≤ 13 := by omega
  have hRn := hR n (Nat.le_refl n)
  have hun := hRn.1
  refine lv_iload_n hx hb d_MT_constant_0 rfl (lv_at hl 1 rfl) ?_
  refine lv_if_lt (tgt := 10) hx hb d_MT_constant_1 (by decide) (fun hc1 => ?_) (fun hc1 => ?_)
  · ---- 1T
    refine lv_iconst (v := -1) hx hb d_MT_constant_10 (by decide) ?_
    exact gc_retwi (u := (I, n, v, us, ct)) (Wf := fun (u : gST) => cW g ad so sw u.1 u.2.1 u.2.2.1 u.2.2.2.1 u.2.2.2.2) (post := fun r (u : gST) => ∃ V, sp_con (v, vk, va, vb, vl) x r V ∧ mt_CR u (n, k, a, b, dp, fc) V) hx hb hr hlk (⟨(v, vk, va, vb, vl), Or.inr ⟨(fun ⟨i9, h1, _⟩ => absurd hc1 (by rw [h1.2]; exact nI_pos (by have := h1.1; omega))), rfl, rfl⟩, hC⟩) hP hD hS d_MT_constant_11
  · ---- 1F
    refine lv_iload_n hx hb d_MT_constant_4 rfl (lv_at hl 1 rfl) ?_
    refine lv_bipush (v := nI 6) hx hb d_MT_constant_5 (by decide) ?_
    refine lv_icmp_lt (tgt := 12) hx hb d_MT_constant_7 (by decide) (fun hc7 => ?_) (fun hc7 => ?_)
    · ---- 1F 7T
      obtain ⟨i, hxi_i⟩ := mt_6 hc1 hc7
      have hlt_i := hxi_i.1
      refine lv_aload_n hx hb d_MT_constant_12 rfl (lv_at hl 0 rfl) ?_
      refine lv_iconst (v := nI 0) hx hb d_MT_constant_13 (by decide) ?_
      refine lv_iload_n hx hb d_MT_constant_14 rfl (lv_at hl 1 rfl) ?_
      refine mt_ri (y := nI i) hxi_i.2 ?_
      refine lv_iload_n hx hb d_MT_constant_15 rfl (lv_at hl 1 rfl) ?_
      refine mt_ri (y := nI i) hxi_i.2 ?_
      refine lv_iconst (v := nI 1) hx hb d_MT_constant_16 (by decide) ?_
      refine gc_cwi (va_runV (own := R_MT) (As := [.int (nI 0), .int (nI i), .int (nI i), .int (nI 1)]) (rest := []) ⟨hx, hb, hml, hown, hts⟩ (c_MT_makeValue (l := l) (g := g) (ad := ad) (so := so) (sw := sw) (I := I) (n := n) (v := v) (us := us) (ct := ct) (k := k) (a := a) (b := b) (dp := dp) (fc := fc) (vk := vk) (va := va) (vb := vb) (vl := vl) (kk := 0) (x := i) (y := i) (yb := 0) (lv := 1) hC (fun h9 => absurd h9 (by decide)) (by decide) (fun _ => hlt_i) (fun h9 => absurd h9 (by decide)) (fun h9 => absurd h9 (by decide)) (by omega) (by omega)) (cwV 4 hts (gx_goodV wd_315 wd_317 ws_10 wd_1 wd_318) rfl rfl rfl (by decide +kernel) ⟨Nat.le_of_ble_eq_true rfl, Nat.le_of_ble_eq_true rfl⟩) (gc_preVW (gc_recv hP hG (ci := 4) rfl (q0 := 15) rfl) hP hG hD) rfl rfl hl.1 rfl (lv_room (Nat.le_of_ble_eq_true rfl)) d_MT_constant_17 ⟨Nat.le_refl _, Nat.le_refl _⟩) hD hS (fun r9 u9 H locs hr9 hP hD hS => ?_)
      exact gc_retwi (u := u9) (Wf := fun (u : gST) => cW g ad so sw u.1 u.2.1 u.2.2.1 u.2.2.2.1 u.2.2.2.2) (post := fun r (u : gST) => ∃ V, sp_con (v, vk, va, vb, vl) x r V ∧ mt_CR u (n, k, a, b, dp, fc) V) hx hb hr hlk (hr9.elim (fun h9 => ⟨_, Or.inl ⟨i, hxi_i, h9.1.1, h9.2.1, rfl⟩, h9.2.2⟩) (fun h9 => ⟨(v, vk, va, vb, vl), Or.inr ⟨(fun ⟨_, _, h8⟩ => h9.1 ⟨h8, by decide⟩), h9.2.1, rfl⟩, h9.2.2⟩)) hP hD hS d_MT_constant_20
    · ---- 1F 7F
      refine lv_iconst (v := -1) hx hb d_MT_constant_10 (by decide) ?_
      exact gc_retwi (u := (I, n, v, us, ct)) (Wf := fun (u : gST) => cW g ad so sw u.1 u.2.1 u.2.2.1 u.2.2.2.1 u.2.2.2.2) (post := fun r (u : gST) => ∃ V, sp_con (v, vk, va, vb, vl) x r V ∧ mt_CR u (n, k, a, b, dp, fc) V) hx hb hr hlk (⟨(v, vk, va, vb, vl), Or.inr ⟨(fun ⟨i9, h1, _⟩ => absurd (show x < nI 6 by rw [h1.2]; exact nI_lt h1.1 (by decide)) hc7), rfl, rfl⟩, hC⟩) hP hD hS d_MT_constant_11

set_option maxHeartbeats 4000000 in
set_option maxRecDepth 100000 in
theorem c_MT_pair {g : gG} {ad so sw : Nat → Nat} {I : Nat → Nat → Int32} {n v : Nat} {us : Nat → Nat} {ct : Nat → Nat → Int64}{k a b : Nat → Nat} {dp : Nat → Nat} {fc : Nat → Bool} {vk va vb vl : Nat → Nat} {x y : Int32} {l : Launch} (hC : mt_CR (I, n, v, us, ct) (n, k, a, b, dp, fc) (v, vk, va, vb, vl))  :
    gc_RW (S := gST) l y_MT_pair (gx_ws y_MT_pair b_MT_pair 3 (some .int)) 2 49 g [.ref (ad 15), .int x, .int y] (cW g ad so sw I n v us ct) (fun (u : gST) => cW g ad so sw u.1 u.2.1 u.2.2.1 u.2.2.2.1 u.2.2.2.2) (fun r (u : gST) => ∃ V, sp_pai (v, vk, va, vb, vl) x y r V ∧ mt_CR u (n, k, a, b, dp, fc) V) := by
  refine gx_body (by decide) (Nat.le_of_ble_eq_true rfl) ?_
  intro p e s m below meth c ls hAt hB hl
  obtain ⟨hx, hb, hml, hown, hts, hr, hlk, hnm⟩ := hAt
  have hown : s.vm.findClass R_MT = some m.cls := hown
  obtain ⟨⟨hP, hG⟩, hD0⟩ := hB
  have hD := gx_D.self hD0
  have hS : va_S (gx_in (cW g ad so sw I n v us ct)) s.heap s.heap [] := va_S.rf
  have hl : lv_has ls 3 [(0, .ref (ad 15)), (1, .int x), (2, .int y)] := hl
  have hC0 := hC
  obtain ⟨-, -, hn12, hT, hE, hw, hdp, hR, hv20, hV, hvw⟩ := hC0
  have hn : n ≤ 13 := by omega
  have hRn := hR n (Nat.le_refl n)
  have hun := hRn.1
  refine lv_aload_n hx hb d_MT_pair_0 rfl (lv_at hl 0 rfl) ?_
  refine va_get (D := g.1) (own := R_MT) (ref := R_MT) (ci := 4) (v := .ref (ad 8)) (C := R_MT) (T := F_MT) (N := 2) hx hb hts in_MT hown hG.1 hP 15 rfl rfl 1 (by decide) (hts _ wd_148) (fun _ h9 => h9) rfl d_MT_pair_1 ?_
  refine lv_iload_n hx hb d_MT_pair_4 rfl (lv_at hl 1 rfl) ?_
  refine vp_callSi (va_runV (own := R_MT) (As := [.int x]) (rest := []) ⟨hx, hb, hml, hown, hts⟩ (c_VT_has (l := l) (g := g) (ad := ad) (so := so) (sw := sw) (I := I) (n := n) (v := v) (us := us) (ct := ct) (x := x) (by omega)) (cwV 1 hts (gx_goodV wd_327 wd_328 wd_329 wd_6 wd_330) rfl rfl rfl (by decide +kernel) ⟨Nat.le_of_ble_eq_true rfl, Nat.le_of_ble_eq_true rfl⟩) (gc_preV (gc_recv hP hG (ci := 3) rfl (q0 := 8) rfl) hP hG) rfl rfl hl.1 rfl (lv_room (Nat.le_of_ble_eq_true rfl)) d_MT_pair_5 ⟨Nat.le_refl _, Nat.le_refl _⟩).run (fun r hr5 => ?_)
  obtain ⟨z5, hq5, hz5⟩ := hr5
  subst hq5
  refine lv_if_eq (tgt := 22) hx hb d_MT_pair_8 (by decide) (mt_z fun hc8 => ?_) (mt_nz fun hc8 => ?_)
  · ---- 8T
    refine lv_iconst (v := -1) hx hb d_MT_pair_22 (by decide) ?_
    exact gc_retwi (u := (I, n, v, us, ct)) (Wf := fun (u : gST) => cW g ad so sw u.1 u.2.1 u.2.2.1 u.2.2.2.1 u.2.2.2.2) (post := fun r (u : gST) => ∃ V, sp_pai (v, vk, va, vb, vl) x y r V ∧ mt_CR u (n, k, a, b, dp, fc) V) hx hb hr hlk (⟨(v, vk, va, vb, vl), Or.inr ⟨(fun ⟨i9, _, h1⟩ => absurd (hz5.mpr ⟨i9, h1.1⟩) (by rw [hc8]; decide)), rfl, rfl⟩, hC⟩) hP hD hS d_MT_pair_23
  · ---- 8F
    obtain ⟨i, hxi_i⟩ := hz5.mp hc8
    have hlt_i := hxi_i.1
    have hp2_i : 2 ^ i ≤ 2 ^ 20 := Nat.pow_le_pow_right (n := 2) (i := i) (j := 20) (by decide) (by omega)
    have hli := (hvw i hlt_i).2.2.2.2
    refine lv_aload_n hx hb d_MT_pair_11 rfl (lv_at hl 0 rfl) ?_
    refine va_get (D := g.1) (own := R_MT) (ref := R_MT) (ci := 4) (v := .ref (ad 8)) (C := R_MT) (T := F_MT) (N := 2) hx hb hts in_MT hown hG.1 hP 15 rfl rfl 1 (by decide) (hts _ wd_148) (fun _ h9 => h9) rfl d_MT_pair_12 ?_
    refine lv_iload_n hx hb d_MT_pair_15 rfl (lv_at hl 2 rfl) ?_
    refine vp_callSi (va_runV (own := R_MT) (As := [.int y]) (rest := []) ⟨hx, hb, hml, hown, hts⟩ (c_VT_has (l := l) (g := g) (ad := ad) (so := so) (sw := sw) (I := I) (n := n) (v := v) (us := us) (ct := ct) (x := y) (by omega)) (cwV 1 hts (gx_goodV wd_327 wd_328 wd_329 wd_6 wd_330) rfl rfl rfl (by decide +kernel) ⟨Nat.le_of_ble_eq_true rfl, Nat.le_of_ble_eq_true rfl⟩) (gc_preV (gc_recv hP hG (ci := 3) rfl (q0 := 8) rfl) hP hG) rfl rfl hl.1 rfl (lv_room (Nat.le_of_ble_eq_true rfl)) d_MT_pair_16 ⟨Nat.le_refl _, Nat.le_refl _⟩).run (fun r hr16 => ?_)
    obtain ⟨z16, hq16, hz16⟩ := hr16
    subst hq16
    refine lv_if_ne (tgt := 24) hx hb d_MT_pair_19 (by decide) (mt_nz fun hc19 => ?_) (mt_z fun hc19 => ?_)
    · ---- 8F 19T
      obtain ⟨j, hxi_j⟩ := hz16.mp hc19
      have hlt_j := hxi_j.1
      have hp2_j : 2 ^ j ≤ 2 ^ 20 := Nat.pow_le_pow_right (n := 2) (i := j) (j := 20) (by decide) (by omega)
      have hlj := (hvw j hlt_j).2.2.2.2
      refine lv_aload_n hx hb d_MT_pair_24 rfl (lv_at hl 0 rfl) ?_
      refine lv_iconst (v := nI 1) hx hb d_MT_pair_25 (by decide) ?_
      refine lv_iload_n hx hb d_MT_pair_26 rfl (lv_at hl 1 rfl) ?_
      refine mt_ri (y := nI i) hxi_i.2 ?_
      refine lv_iload_n hx hb d_MT_pair_27 rfl (lv_at hl 2 rfl) ?_
      refine mt_ri (y := nI j) hxi_j.2 ?_
      refine lv_aload_n hx hb d_MT_pair_28 rfl (lv_at hl 0 rfl) ?_
      refine va_get (D := g.1) (own := R_MT) (ref := R_MT) (ci := 4) (v := .ref (ad 8)) (C := R_MT) (T := F_MT) (N := 2) hx hb hts in_MT hown hG.1 hP 15 rfl rfl 1 (by decide) (hts _ wd_148) (fun _ h9 => h9) rfl d_MT_pair_29 ?_
      refine va_getN (D := g.1) (own := R_MT) (ref := R_VT) (ci := 3) (v := .ref (ad 12)) (C := R_VT) (T := F_VT) (N := 8) hx hb hts in_VT hown hG.1 hP 8 rfl rfl 3 (by decide) (va_Nw.use rfl (hG.2.1 _ nw_11)) (fun _ h9 => h9) rfl d_MT_pair_32 ?_
      refine lv_iload_n hx hb d_MT_pair_35 rfl (lv_at hl 1 rfl) ?_
      refine mt_ri (y := nI i) hxi_i.2 ?_
      refine va_iald hx hb hG.1 hP 12 0 rfl rfl (vp_in_nI (by omega) (by decide)) d_MT_pair_36 ?_
      refine mt_ri (y := nI (vl i)) (by rw [nI_clamp (by omega)]; exact (hV _ (by omega)).2.2.1) ?_
      refine lv_aload_n hx hb d_MT_pair_37 rfl (lv_at hl 0 rfl) ?_
      refine va_get (D := g.1) (own := R_MT) (ref := R_MT) (ci := 4) (v := .ref (ad 8)) (C := R_MT) (T := F_MT) (N := 2) hx hb hts in_MT hown hG.1 hP 15 rfl rfl 1 (by decide) (hts _ wd_148) (fun _ h9 => h9) rfl d_MT_pair_38 ?_
      refine va_getN (D := g.1) (own := R_MT) (ref := R_VT) (ci := 3) (v := .ref (ad 12)) (C := R_VT) (T := F_VT) (N := 8) hx hb hts in_VT hown hG.1 hP 8 rfl rfl 3 (by decide) (va_Nw.use rfl (hG.2.1 _ nw_11)) (fun _ h9 => h9) rfl d_MT_pair_41 ?_
      refine lv_iload_n hx hb d_MT_pair_44 rfl (lv_at hl 2 rfl) ?_
      refine mt_ri (y := nI j) hxi_j.2 ?_
      refine va_iald hx hb hG.1 hP 12 0 rfl rfl (vp_in_nI (by omega) (by decide)) d_MT_pair_45 ?_
      refine mt_ri (y := nI (vl j)) (by rw [nI_clamp (by omega)]; exact (hV _ (by omega)).2.2.1) ?_
      refine lv_iadd hx hb d_MT_pair_46 ?_
      refine mt_ri (y := nI (vl i + (vl j))) (nI_add _ _) ?_
      refine gc_cwi (va_runV (own := R_MT) (As := [.int (nI 1), .int (nI i), .int (nI j), .int (nI (vl i + (vl j)))]) (rest := []) ⟨hx, hb, hml, hown, hts⟩ (c_MT_makeValue (l := l) (g := g) (ad := ad) (so := so) (sw := sw) (I := I) (n := n) (v := v) (us := us) (ct := ct) (k := k) (a := a) (b := b) (dp := dp) (fc := fc) (vk := vk) (va := va) (vb := vb) (vl := vl) (kk := 1) (x := i) (y := j) (yb := j) (lv := vl i + (vl j)) hC (fun _ => rfl) (by decide) (fun h9 => absurd h9 (by decide)) (fun _ => ⟨hlt_i, hlt_j, rfl⟩) (fun h9 => absurd h9 (by decide)) (by omega) (by omega)) (cwV 4 hts (gx_goodV wd_315 wd_317 ws_10 wd_1 wd_318) rfl rfl rfl (by decide +kernel) ⟨Nat.le_of_ble_eq_true rfl, Nat.le_of_ble_eq_true rfl⟩) (gc_preVW (gc_recv hP hG (ci := 4) rfl (q0 := 15) rfl) hP hG hD) rfl rfl hl.1 rfl (lv_room (Nat.le_of_ble_eq_true rfl)) d_MT_pair_47 ⟨Nat.le_refl _, Nat.le_refl _⟩) hD hS (fun r9 u9 H locs hr9 hP hD hS => ?_)
      exact gc_retwi (u := u9) (Wf := fun (u : gST) => cW g ad so sw u.1 u.2.1 u.2.2.1 u.2.2.2.1 u.2.2.2.2) (post := fun r (u : gST) => ∃ V, sp_pai (v, vk, va, vb, vl) x y r V ∧ mt_CR u (n, k, a, b, dp, fc) V) hx hb hr hlk (hr9.elim (fun h9 => ⟨_, Or.inl ⟨i, j, ⟨hxi_i, hxi_j, h9.1.1, h9.1.2⟩, h9.2.1, rfl⟩, h9.2.2⟩) (fun h9 => ⟨(v, vk, va, vb, vl), Or.inr ⟨(fun ⟨i9, j9, h1⟩ => by have e1 := sp_is_inj (show v ≤ 100 by omega) h1.1 hxi_i; have e2 := sp_is_inj (show v ≤ 100 by omega) h1.2.1 hxi_j; subst e1; subst e2; exact h9.1 h1.2.2), h9.2.1, rfl⟩, h9.2.2⟩)) hP hD hS d_MT_pair_50
    · ---- 8F 19F
      refine lv_iconst (v := -1) hx hb d_MT_pair_22 (by decide) ?_
      exact gc_retwi (u := (I, n, v, us, ct)) (Wf := fun (u : gST) => cW g ad so sw u.1 u.2.1 u.2.2.1 u.2.2.2.1 u.2.2.2.2) (post := fun r (u : gST) => ∃ V, sp_pai (v, vk, va, vb, vl) x y r V ∧ mt_CR u (n, k, a, b, dp, fc) V) hx hb hr hlk (⟨(v, vk, va, vb, vl), Or.inr ⟨(fun ⟨_, j9, h1⟩ => absurd (hz16.mpr ⟨j9, h1.2.1⟩) (by rw [hc19]; decide)), rfl, rfl⟩, hC⟩) hP hD hS d_MT_pair_23

set_option maxHeartbeats 4000000 in
set_option maxRecDepth 100000 in
theorem c_MT_function {g : gG} {ad so sw : Nat → Nat} {I : Nat → Nat → Int32} {n v : Nat} {us : Nat → Nat} {ct : Nat → Nat → Int64}{k a b : Nat → Nat} {dp : Nat → Nat} {fc : Nat → Bool} {vk va vb vl : Nat → Nat} {x : Int32} {l : Launch} (hC : mt_CR (I, n, v, us, ct) (n, k, a, b, dp, fc) (v, vk, va, vb, vl))  :
    gc_RW (S := gST) l y_MT_function (gx_ws y_MT_function b_MT_function 2 (some .int)) 2 49 g [.ref (ad 15), .int x] (cW g ad so sw I n v us ct) (fun (u : gST) => cW g ad so sw u.1 u.2.1 u.2.2.1 u.2.2.2.1 u.2.2.2.2) (fun r (u : gST) => ∃ V, sp_fun (n, k, a, b, dp, fc) (v, vk, va, vb, vl) x r V ∧ mt_CR u (n, k, a, b, dp, fc) V) := by
  refine gx_body (by decide) (Nat.le_of_ble_eq_true rfl) ?_
  intro p e s m below meth c ls hAt hB hl
  obtain ⟨hx, hb, hml, hown, hts, hr, hlk, hnm⟩ := hAt
  have hown : s.vm.findClass R_MT = some m.cls := hown
  obtain ⟨⟨hP, hG⟩, hD0⟩ := hB
  have hD := gx_D.self hD0
  have hS : va_S (gx_in (cW g ad so sw I n v us ct)) s.heap s.heap [] := va_S.rf
  have hl : lv_has ls 2 [(0, .ref (ad 15)), (1, .int x)] := hl
  have hC0 := hC
  obtain ⟨-, -, hn12, hT, hE, hw, hdp, hR, hv20, hV, hvw⟩ := hC0
  have hn : n ≤ 13 := by omega
  have hRn := hR n (Nat.le_refl n)
  have hun := hRn.1
  refine lv_aload_n hx hb d_MT_function_0 rfl (lv_at hl 0 rfl) ?_
  refine lv_iload_n hx hb d_MT_function_1 rfl (lv_at hl 1 rfl) ?_
  refine vp_callSi (va_runV (own := R_MT) (As := [.int x]) (rest := []) ⟨hx, hb, hml, hown, hts⟩ (c_MT_hasType (l := l) (g := g) (ad := ad) (so := so) (sw := sw) (I := I) (n := n) (v := v) (us := us) (ct := ct) (x := x) (by omega)) (cwV 1 hts (gx_goodV wd_252 wd_254 ws_9 wd_1 wd_255) rfl rfl rfl (by decide +kernel) ⟨Nat.le_of_ble_eq_true rfl, Nat.le_of_ble_eq_true rfl⟩) (gc_preV (gc_recv hP hG (ci := 4) rfl (q0 := 15) rfl) hP hG) rfl rfl hl.1 rfl (lv_room (Nat.le_of_ble_eq_true rfl)) d_MT_function_2 ⟨Nat.le_refl _, Nat.le_refl _⟩).run (fun r hr2 => ?_)
  obtain ⟨z2, hq2, hz2⟩ := hr2
  subst hq2
  refine lv_if_eq (tgt := 23) hx hb d_MT_function_5 (by decide) (mt_z fun hc5 => ?_) (mt_nz fun hc5 => ?_)
  · ---- 5T
    refine lv_iconst (v := -1) hx hb d_MT_function_23 (by decide) ?_
    exact gc_retwi (u := (I, n, v, us, ct)) (Wf := fun (u : gST) => cW g ad so sw u.1 u.2.1 u.2.2.1 u.2.2.2.1 u.2.2.2.2) (post := fun r (u : gST) => ∃ V, sp_fun (n, k, a, b, dp, fc) (v, vk, va, vb, vl) x r V ∧ mt_CR u (n, k, a, b, dp, fc) V) hx hb hr hlk (⟨(v, vk, va, vb, vl), Or.inr ⟨(fun ⟨i9, h1⟩ => absurd (hz2.mpr ⟨i9, h1.1⟩) (by rw [hc5]; decide)), rfl, rfl⟩, hC⟩) hP hD hS d_MT_function_24
  · ---- 5F
    obtain ⟨i, hxi_i⟩ := hz2.mp hc5
    have hlt_i := hxi_i.1
    have hp2_i : 2 ^ i ≤ 2 ^ 20 := Nat.pow_le_pow_right (n := 2) (i := i) (j := 20) (by decide) (by omega)
    have hq2_i : 2 ^ i ≤ 2 ^ 12 := Nat.pow_le_pow_right (n := 2) (i := i) (j := 12) (by decide) (by omega)
    refine lv_aload_n hx hb d_MT_function_8 rfl (lv_at hl 0 rfl) ?_
    refine va_get (D := g.1) (own := R_MT) (ref := R_MT) (ci := 4) (v := .ref (ad 0)) (C := R_MT) (T := F_MT) (N := 2) hx hb hts in_MT hown hG.1 hP 15 rfl rfl 0 (by decide) (hts _ wd_147) (fun _ h9 => h9) rfl d_MT_function_9 ?_
    refine va_getN (D := g.1) (own := R_MT) (ref := R_MG) (ci := 2) (v := .ref (ad 1)) (C := R_MG) (T := F_MG) (N := 6) hx hb hts in_MG hown hG.1 hP 0 rfl rfl 0 (by decide) (va_Nw.use rfl (hG.2.1 _ nw_10)) (fun _ h9 => h9) rfl d_MT_function_12 ?_
    refine va_getN (D := g.1) (own := R_MT) (ref := R_TT) (ci := 1) (v := .ref (ad 6)) (C := R_TT) (T := F_TT) (N := 6) hx hb hts in_TT hown hG.1 hP 1 rfl rfl 4 (by decide) (va_Nw.use rfl (hG.2.1 _ nw_3)) (fun _ h9 => h9) rfl d_MT_function_15 ?_
    refine lv_iload_n hx hb d_MT_function_18 rfl (lv_at hl 1 rfl) ?_
    refine mt_ri (y := nI i) hxi_i.2 ?_
    refine va_zald hx hb hG.1 hP 6 1 rfl rfl (vp_in_nI (by omega) (by decide)) d_MT_function_19 ?_
    refine mt_ri (y := mt_b (fc i)) (by rw [nI_clamp (by omega)]; exact (hE _ (by omega)).2) ?_
    refine lv_if_ne (tgt := 25) hx hb d_MT_function_20 (by decide) (mt_nz fun hc20 => ?_) (mt_z fun hc20 => ?_)
    · ---- 5F 20T
      refine lv_aload_n hx hb d_MT_function_25 rfl (lv_at hl 0 rfl) ?_
      refine lv_iconst (v := nI 2) hx hb d_MT_function_26 (by decide) ?_
      refine lv_iload_n hx hb d_MT_function_27 rfl (lv_at hl 1 rfl) ?_
      refine mt_ri (y := nI i) hxi_i.2 ?_
      refine lv_iload_n hx hb d_MT_function_28 rfl (lv_at hl 1 rfl) ?_
      refine mt_ri (y := nI i) hxi_i.2 ?_
      refine lv_iconst (v := nI 1) hx hb d_MT_function_29 (by decide) ?_
      refine gc_cwi (va_runV (own := R_MT) (As := [.int (nI 2), .int (nI i), .int (nI i), .int (nI 1)]) (rest := []) ⟨hx, hb, hml, hown, hts⟩ (c_MT_makeValue (l := l) (g := g) (ad := ad) (so := so) (sw := sw) (I := I) (n := n) (v := v) (us := us) (ct := ct) (k := k) (a := a) (b := b) (dp := dp) (fc := fc) (vk := vk) (va := va) (vb := vb) (vl := vl) (kk := 2) (x := i) (y := i) (yb := 0) (lv := 1) hC (fun h9 => absurd h9 (by decide)) (by decide) (fun h9 => absurd h9 (by decide)) (fun h9 => absurd h9 (by decide)) (fun _ => hlt_i) (by omega) (by omega)) (cwV 4 hts (gx_goodV wd_315 wd_317 ws_10 wd_1 wd_318) rfl rfl rfl (by decide +kernel) ⟨Nat.le_of_ble_eq_true rfl, Nat.le_of_ble_eq_true rfl⟩) (gc_preVW (gc_recv hP hG (ci := 4) rfl (q0 := 15) rfl) hP hG hD) rfl rfl hl.1 rfl (lv_room (Nat.le_of_ble_eq_true rfl)) d_MT_function_30 ⟨Nat.le_refl _, Nat.le_refl _⟩) hD hS (fun r9 u9 H locs hr9 hP hD hS => ?_)
      exact gc_retwi (u := u9) (Wf := fun (u : gST) => cW g ad so sw u.1 u.2.1 u.2.2.1 u.2.2.2.1 u.2.2.2.2) (post := fun r (u : gST) => ∃ V, sp_fun (n, k, a, b, dp, fc) (v, vk, va, vb, vl) x r V ∧ mt_CR u (n, k, a, b, dp, fc) V) hx hb hr hlk (hr9.elim (fun h9 => ⟨_, Or.inl ⟨i, ⟨hxi_i, hc20, h9.1.1⟩, h9.2.1, rfl⟩, h9.2.2⟩) (fun h9 => ⟨(v, vk, va, vb, vl), Or.inr ⟨(fun ⟨_, h8⟩ => h9.1 ⟨h8.2.2, by decide⟩), h9.2.1, rfl⟩, h9.2.2⟩)) hP hD hS d_MT_function_33
    · ---- 5F 20F
      refine lv_iconst (v := -1) hx hb d_MT_function_23 (by decide) ?_
      exact gc_retwi (u := (I, n, v, us, ct)) (Wf := fun (u : gST) => cW g ad so sw u.1 u.2.1 u.2.2.1 u.2.2.2.1 u.2.2.2.2) (post := fun r (u : gST) => ∃ V, sp_fun (n, k, a, b, dp, fc) (v, vk, va, vb, vl) x r V ∧ mt_CR u (n, k, a, b, dp, fc) V) hx hb hr hlk (⟨(v, vk, va, vb, vl), Or.inr ⟨(fun ⟨i9, h1⟩ => by have e1 := sp_is_inj (show n ≤ 100 by omega) h1.1 hxi_i; subst e1; have h8 := h1.2.1; dsimp only at h8; rw [hc20] at h8; cases h8), rfl, rfl⟩, hC⟩) hP hD hS d_MT_function_24
