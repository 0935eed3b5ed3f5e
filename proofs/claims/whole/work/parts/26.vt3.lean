set_option maxHeartbeats 4000000 in
set_option maxRecDepth 100000 in
theorem c_VT_typesOf {g : gG} {ad so sw : Nat → Nat} {I : Nat → Nat → Int32} {n v : Nat} {us : Nat → Nat} {ct : Nat → Nat → Int64}{k a b : Nat → Nat} {vk va vb vl : Nat → Nat} {x : Nat} {l : Launch} (hT : mt_TR I n k a b) (hn12 : n ≤ 12) (hw : mt_wf k a b n) (hR : mt_RW us ct n k a b) (hV : mt_VR I v vk va vb vl) (hv20 : v ≤ 20) (hvw : mt_vw n v vk va vb vl) (hxv : x < v) :
    gc_RW (S := gUC) l y_VT_typesOf (gx_ws y_VT_typesOf b_VT_typesOf 5 (some .int)) 8 185 g [.ref (ad 8), .int (nI x), .ref (ad 0)] (cW g ad so sw I n v us ct) (fun (u : gUC) => cW g ad so sw I n v u.1 u.2) (fun r (u : gUC) => mt_RW u.1 u.2 n k a b ∧ ∃ ww, r = nI ww ∧ ww < 2 ^ n ∧ ∀ t, ww.testBit t = true ↔ (t < n ∧ ∀ z, mt_V k a b vk va vb n 4 x z → z.testBit t = true)) := by
  refine gx_body (by decide) (Nat.le_of_ble_eq_true rfl) ?_
  intro p e s m below meth c ls hAt hB hl
  obtain ⟨hx, hb, hml, hown, hts, hr, hlk, hnm⟩ := hAt
  have hown : s.vm.findClass R_VT = some m.cls := hown
  obtain ⟨⟨hP, hG⟩, hD0⟩ := hB
  have hD := gx_D.self hD0
  have hS : va_S (gx_in (cW g ad so sw I n v us ct)) s.heap s.heap [] := va_S.rf
  have hl : lv_has ls 5 [(0, .ref (ad 8)), (1, .int (nI x)), (2, .ref (ad 0))] := hl
  have hn : n ≤ 13 := by omega
  have hwd := mt_wd_le hn
  have hp13 := mt_p13 hn
  have hvx := hvw x hxv
  refine lv_aload_n hx hb d_VT_typesOf_0 rfl (lv_at hl 0 rfl) ?_
  refine lv_aload_n hx hb d_VT_typesOf_1 rfl (lv_at hl 0 rfl) ?_
  refine va_get (D := g.1) (own := R_VT) (ref := R_VT) (ci := 3) (v := .ref (so 18)) (C := R_VT) (T := F_VT) (N := 8) hx hb hts in_VT hown hG.1 hP 8 rfl rfl 5 (by decide) (hts _ wd_127) (fun _ h9 => h9) rfl d_VT_typesOf_2 ?_
  refine lv_iload_n hx hb d_VT_typesOf_5 rfl (lv_at hl 1 rfl) ?_
  refine lv_aload_n hx hb d_VT_typesOf_6 rfl (lv_at hl 2 rfl) ?_
  refine lv_iconst (v := nI 0) hx hb d_VT_typesOf_7 (by decide) ?_
  refine gc_cwv (va_runV (own := R_VT) (As := [.ref (so 18), .int (nI x), .ref (ad 0), .int (nI 0)]) (rest := []) ⟨hx, hb, hml, hown, hts⟩ (c_VT_fill0 (l := l) (g := g) (ad := ad) (so := so) (sw := sw) (I := I) (n := n) (v := v) (us := us) (ct := ct) (k := k) (a := a) (b := b) (vk := vk) (va := va) (vb := vb) (vl := vl) (x := x) (h := 18) hT hn12 hw hR hV hv20 hvw hxv (by omega) (Or.inl rfl)) (cwV 4 hts (gx_goodV wd_343 wd_345 ws_11 wd_6 wd_346) rfl rfl rfl (by decide +kernel) ⟨Nat.le_of_ble_eq_true rfl, Nat.le_of_ble_eq_true rfl⟩) (gc_preVW (gc_recv hP hG (ci := 3) rfl (q0 := 8) rfl) hP hG hD) rfl rfl hl.1 rfl (lv_room (Nat.le_of_ble_eq_true rfl)) d_VT_typesOf_8 ⟨Nat.le_refl _, Nat.le_refl _⟩) hD hS (fun u8 H locs hu8 hP hD hS => ?_)
  have hP : va_P g.1 gx_cl (cW g ad so sw I n v u8.1 u8.2) H := hP
  have hD : va_D (gx_in (cW g ad so sw I n v us ct)) (cW g ad so sw I n v u8.1 u8.2) := hD
  refine lv_iconst (v := nI 1) hx hb d_VT_typesOf_11 (by decide) ?_
  refine lv_aload_n hx hb d_VT_typesOf_12 rfl (lv_at hl 2 rfl) ?_
  refine va_getN (D := g.1) (own := R_VT) (ref := R_MG) (ci := 2) (v := .ref (ad 1)) (C := R_MG) (T := F_MG) (N := 6) hx hb hts in_MG hown hG.1 hP 0 rfl rfl 0 (by decide) (va_Nw.use rfl (hG.2.1 _ nw_9)) (fun _ h9 => h9) rfl d_VT_typesOf_13 ?_
  refine va_getN (D := g.1) (own := R_VT) (ref := R_TT) (ci := 1) (v := .int (nI n)) (C := R_TT) (T := F_TT) (N := 6) hx hb hts in_TT hown hG.1 hP 1 rfl rfl 5 (by decide) (va_Nw.use rfl (hG.2.1 _ nw_5)) (fun _ h9 => h9) rfl d_VT_typesOf_16 ?_
  refine lv_ishl hx hb d_VT_typesOf_19 ?_
  refine mt_ri (y := nI (2 ^ n)) (mt_shl (by omega)) ?_
  refine lv_iconst (v := nI 1) hx hb d_VT_typesOf_20 (by decide) ?_
  refine lv_isub hx hb d_VT_typesOf_21 ?_
  refine mt_ri (y := nI (2 ^ n - 1)) (pk_sub (by omega)) ?_
  refine lv_istore_n (lv' := [(3, .int (nI (2 ^ n - 1))), (0, .ref (ad 8)), (1, .int (nI x)), (2, .ref (ad 0))]) hx hb d_VT_typesOf_22 rfl hl (by decide) rfl (fun ls hl => ?_)
  refine lv_aload_n hx hb d_VT_typesOf_23 rfl (lv_at hl 1 rfl) ?_
  refine va_get (D := g.1) (own := R_VT) (ref := R_VT) (ci := 3) (v := .ref (so 18)) (C := R_VT) (T := F_VT) (N := 8) hx hb hts in_VT hown hG.1 hP 8 rfl rfl 5 (by decide) (hts _ wd_127) (fun _ h9 => h9) rfl d_VT_typesOf_24 ?_
  refine lv_iconst (v := nI 0) hx hb d_VT_typesOf_27 (by decide) ?_
  refine vp_callSi (va_runV (own := R_VT) (As := [.int (nI 0)]) (rest := []) ⟨hx, hb, hml, hown, hts⟩ (c_PS_nextFrom (l := l) (g := g) (o := so 18) (w := sw 18) (cp := mt_cp 18) (u := mt_wd n) (f := u8.2 18) (i := 0) (by omega) (by exact mt_cp12 (by decide) hn12) (mt_cp_le _)) (cwV 1 hts (gx_goodV wd_356 wd_201 wd_202 wd_4 wd_203) rfl rfl rfl (by decide +kernel) ⟨Nat.le_of_ble_eq_true rfl, Nat.le_of_ble_eq_true rfl⟩) (gc_preV (gc_recv hP hG (ci := 0) rfl (cw_oE (k := 18) (u := mt_wd n) (by decide) hu8.2.1)) (cw_pickE hP (by decide) hu8.2.1 rfl) hG) rfl rfl hl.1 rfl (lv_room (Nat.le_of_ble_eq_true rfl)) d_VT_typesOf_28 ⟨Nat.le_refl _, Nat.le_refl _⟩).run (fun r hr28 => ?_)
  obtain ⟨q28, hq28, hn28⟩ := hr28
  subst hq28
  have hcu28 := mt_nx_cu hn28
  refine lv_istore (lv' := [(4, .int (nI q28)), (3, .int (nI (2 ^ n - 1))), (0, .ref (ad 8)), (1, .int (nI x)), (2, .ref (ad 0))]) hx hb d_VT_typesOf_31 hl (by decide) rfl (fun ls hl => ?_)
  have lp33 : ∀ (d : Nat) (q : Nat) (ww : Nat) (ls : Array Slot) (H : Heap) (locs : List Loc), d = 64 * mt_wd n - q → (q ≤ 64 * mt_wd n) → (q < 64 * mt_wd n → mt_el (mt_wd n) (u8.2 18) q) → (mt_sh (mt_el (mt_wd n) (u8.2 18)) n q ww) → lv_has ls 5 [(4, .int (nI q)), (3, .int (nI ww)), (0, .ref (ad 8))] → va_P g.1 gx_cl (cW g ad so sw I n v u8.1 u8.2) H → va_D (gx_in (cW g ad so sw I n v us ct)) (cW g ad so sw I n v u8.1 u8.2) → va_S (gx_in (cW g ad so sw I n v us ct)) s.heap H locs → W p l e (gx_rm 8 185) s m ([.ref (ad 8), .int (nI x), .ref (ad 0)] : List Value).toArray below meth c H locs 0 0 (MQ below (va_Qi (fun r (u : gUC) => mt_RW u.1 u.2 n k a b ∧ ∃ ww, r = nI ww ∧ ww < 2 ^ n ∧ ∀ t, ww.testBit t = true ↔ (t < n ∧ ∀ z, mt_V k a b vk va vb n 4 x z → z.testBit t = true)) (fun u9 t9 => va_P g.1 gx_cl ((fun (u : gUC) => cW g ad so sw I n v u.1 u.2) u9) t9.heap ∧ va_D (gx_in (cW g ad so sw I n v us ct)) ((fun (u : gUC) => cW g ad so sw I n v u.1 u.2) u9)) (gx_in (cW g ad so sw I n v us ct))) ([.ref (ad 8), .int (nI x), .ref (ad 0)] : List Value).toArray s 0 0 (gx_in (cW g ad so sw I n v us ct))) (F0 m 33 ls []) := by
    intro d
    induction d using Nat.strongRecOn with
    | ind d ih33 =>
    intro q ww ls H locs hd hq hqS hs hl hP hD hS
    refine lv_iload hx hb d_VT_typesOf_33 (lv_at hl 0 rfl) ?_
    refine lv_aload_n hx hb d_VT_typesOf_35 rfl (lv_at hl 2 rfl) ?_
    refine va_get (D := g.1) (own := R_VT) (ref := R_VT) (ci := 3) (v := .ref (so 18)) (C := R_VT) (T := F_VT) (N := 8) hx hb hts in_VT hown hG.1 hP 8 rfl rfl 5 (by decide) (hts _ wd_127) (fun _ h9 => h9) rfl d_VT_typesOf_36 ?_
    refine va_getN (D := g.1) (own := R_VT) (ref := R_PS) (ci := 0) (v := .int (nI (64 * (mt_wd n)))) (C := R_PS) (T := F_PS) (N := 3) hx hb hts in_PS hown hG.1 hP _ (cw_oE (k := 18) (u := mt_wd n) (by decide) hu8.2.1) rfl 2 (by decide) (va_Nw.use rfl (hG.2.1 _ nw_8)) (fun _ h9 => h9) rfl d_VT_typesOf_39 ?_
    refine lv_icmp_ge (tgt := 66) hx hb d_VT_typesOf_42 (by decide) (mt_le (by omega) (by omega) fun hc42 => ?_) (mt_nle (by omega) (by omega) fun hc42 => ?_)
    · ---- 42T
      refine lv_iload_n hx hb d_VT_typesOf_66 rfl (lv_at hl 1 rfl) ?_
      exact gc_retwi (u := (u8)) (Wf := fun (u : gUC) => cW g ad so sw I n v u.1 u.2) (post := fun r (u : gUC) => mt_RW u.1 u.2 n k a b ∧ ∃ ww, r = nI ww ∧ ww < 2 ^ n ∧ ∀ t, ww.testBit t = true ↔ (t < n ∧ ∀ z, mt_V k a b vk va vb n 4 x z → z.testBit t = true)) hx hb hr hlk (⟨mt_RW_fr hR (fun q9 hq9 => hu8.1 q9 (by unfold mt_ch; omega)), ww, rfl, mt_sh_lt hs, mt_sh_e hs (by omega) hu8.2.2⟩) hP hD hS d_VT_typesOf_67
    · ---- 42F
      refine lv_iload_n hx hb d_VT_typesOf_45 rfl (lv_at hl 1 rfl) ?_
      refine lv_iload hx hb d_VT_typesOf_46 (lv_at hl 0 rfl) ?_
      refine lv_iand hx hb d_VT_typesOf_48 ?_
      refine mt_ri (y := nI (ww &&& q)) (mt_and _ _) ?_
      refine lv_istore_n (lv' := [(3, .int (nI (ww &&& q))), (4, .int (nI q)), (0, .ref (ad 8))]) hx hb d_VT_typesOf_49 rfl hl (by decide) rfl (fun ls hl => ?_)
      refine lv_aload_n hx hb d_VT_typesOf_50 rfl (lv_at hl 2 rfl) ?_
      refine va_get (D := g.1) (own := R_VT) (ref := R_VT) (ci := 3) (v := .ref (so 18)) (C := R_VT) (T := F_VT) (N := 8) hx hb hts in_VT hown hG.1 hP 8 rfl rfl 5 (by decide) (hts _ wd_127) (fun _ h9 => h9) rfl d_VT_typesOf_51 ?_
      refine lv_iload hx hb d_VT_typesOf_54 (lv_at hl 1 rfl) ?_
      refine lv_iconst (v := nI 1) hx hb d_VT_typesOf_56 (by decide) ?_
      refine lv_iadd hx hb d_VT_typesOf_57 ?_
      refine mt_ri (y := nI (q + 1)) (nI_add _ _) ?_
      refine vp_callSi (va_runV (own := R_VT) (As := [.int (nI (q + 1))]) (rest := []) ⟨hx, hb, hml, hown, hts⟩ (c_PS_nextFrom (l := l) (g := g) (o := so 18) (w := sw 18) (cp := mt_cp 18) (u := mt_wd n) (f := u8.2 18) (i := q + 1) (by omega) (by exact mt_cp12 (by decide) hn12) (mt_cp_le _)) (cwV 1 hts (gx_goodV wd_356 wd_201 wd_202 wd_4 wd_203) rfl rfl rfl (by decide +kernel) ⟨Nat.le_of_ble_eq_true rfl, Nat.le_of_ble_eq_true rfl⟩) (gc_preV (gc_recv hP hG (ci := 0) rfl (cw_oE (k := 18) (u := mt_wd n) (by decide) hu8.2.1)) (cw_pickE hP (by decide) hu8.2.1 rfl) hG) rfl rfl hl.1 rfl (lv_room (Nat.le_of_ble_eq_true rfl)) d_VT_typesOf_58 ⟨Nat.le_refl _, Nat.le_refl _⟩).run (fun r hr58 => ?_)
      obtain ⟨q58, hq58, hn58⟩ := hr58
      subst hq58
      have hcu58 := mt_nx_cu hn58
      refine lv_istore (lv' := [(4, .int (nI q58)), (3, .int (nI (ww &&& q))), (0, .ref (ad 8))]) hx hb d_VT_typesOf_61 hl (by decide) rfl (fun ls hl => ?_)
      refine lv_goto (tgt := 33) hx hb d_VT_typesOf_63 (by decide) ?_
      exact ih33 _ (by have := hn58.1; omega) q58 (ww &&& q) ls _ _ rfl (hcu58.1) (hcu58.2) (mt_sh_s hs (hqS (by omega)) hn58) (lv_sub hl [0, 1, 2] rfl) hP hD hS
  exact lp33 _ q28 (2 ^ n - 1) ls _ _ rfl (hcu28.1) (hcu28.2) (mt_sh_0 hn28) (lv_sub hl [0, 1, 2] rfl) hP hD hS
