set_option maxHeartbeats 4000000 in
set_option maxRecDepth 100000 in
theorem c_VT_fill3 {g : gG} {ad so sw : Nat → Nat} {I : Nat → Nat → Int32} {n v : Nat} {us : Nat → Nat} {ct : Nat → Nat → Int64}{k a b : Nat → Nat} {vk va vb vl : Nat → Nat} {x h : Nat} {l : Launch} (hT : mt_TR I n k a b) (hn12 : n ≤ 12) (hw : mt_wf k a b n) (hR : mt_RW us ct n k a b) (hV : mt_VR I v vk va vb vl) (hv20 : v ≤ 20) (hvw : mt_vw n v vk va vb vl) (hxv : x < v) (hvl : vl x ≤ 1) (hh : h = 18 ∨ (19 ≤ h ∧ h < 22) ∨ (22 ≤ h ∧ h < 25)) :
    gc_RV (S := gUC) l y_VT_fill (gx_ws y_VT_fill b_VT_fill 5 none) 4 89 g [.ref (ad 8), .ref (so h), .int (nI x), .ref (ad 0), .int (nI 3)] (cW g ad so sw I n v us ct) (fun (u : gUC) => cW g ad so sw I n v u.1 u.2) (fun (u : gUC) => (∀ q, ¬ mt_ch 3 h q → u.1 q = us q ∧ u.2 q = ct q) ∧ u.1 h = mt_wd n ∧ ∀ z, mt_el (mt_wd n) (u.2 h) z ↔ mt_V k a b vk va vb n 1 x z) := by
  refine gx_body (by decide) (Nat.le_of_ble_eq_true rfl) ?_
  intro p e s m below meth c ls hAt hB hl
  obtain ⟨hx, hb, hml, hown, hts, hr, hlk, hnm⟩ := hAt
  have hown : s.vm.findClass R_VT = some m.cls := hown
  obtain ⟨⟨hP, hG⟩, hD0⟩ := hB
  have hD := gx_D.self hD0
  have hS : va_S (gx_in (cW g ad so sw I n v us ct)) s.heap s.heap [] := va_S.rf
  have hl : lv_has ls 5 [(0, .ref (ad 8)), (1, .ref (so h)), (2, .int (nI x)), (3, .ref (ad 0)), (4, .int (nI 3))] := hl
  have hn : n ≤ 13 := by omega
  have hwd := mt_wd_le hn
  have hRn := hR n (Nat.le_refl n)
  have hun := hRn.1
  have hvx := hvw x hxv
  have hh25 : h < 25 := by omega
  refine lv_aload_n hx hb d_VT_fill_0 rfl (lv_at hl 1 rfl) ?_
  refine lv_aload_n hx hb d_VT_fill_1 rfl (lv_at hl 3 rfl) ?_
  refine va_getN (D := g.1) (own := R_VT) (ref := R_MG) (ci := 2) (v := .ref (ad 1)) (C := R_MG) (T := F_MG) (N := 6) hx hb hts in_MG hown hG.1 hP 0 rfl rfl 0 (by decide) (va_Nw.use rfl (hG.2.1 _ nw_9)) (fun _ h9 => h9) rfl d_VT_fill_2 ?_
  refine va_getN (D := g.1) (own := R_VT) (ref := R_TT) (ci := 1) (v := .int (nI n)) (C := R_TT) (T := F_TT) (N := 6) hx hb hts in_TT hown hG.1 hP 1 rfl rfl 5 (by decide) (va_Nw.use rfl (hG.2.1 _ nw_5)) (fun _ h9 => h9) rfl d_VT_fill_5 ?_
  refine gc_cresE (u := us h) (f := ct h) (w1 := mt_wd n) (by omega) rfl rfl (va_runV (own := R_VT) (As := [.int (nI n)]) (rest := []) ⟨hx, hb, hml, hown, hts⟩ (c_PS_restart (l := l) (g := g) (o := so h) (w := sw h) (cp := mt_cp h) (u := us h) (f := ct h) (b := n) (by omega) (by exact mt_cp12 (by omega) hn12) (mt_cp_le _)) (cwV 1 hts (gx_goodV wd_347 wd_81 wd_82 wd_4 wd_83) rfl rfl rfl (by decide +kernel) ⟨Nat.le_of_ble_eq_true rfl, Nat.le_of_ble_eq_true rfl⟩) (gc_preVW (gc_recv hP hG (ci := 0) rfl (cw_oE (k := h) (u := us h) (by omega) rfl)) (cw_pickE hP (by omega) rfl rfl) hG (cw_pickDE hD (by omega) rfl rfl)) rfl rfl hl.1 rfl (lv_room (Nat.le_of_ble_eq_true rfl)) d_VT_fill_8 ⟨Nat.le_refl _, Nat.le_refl _⟩) hP hD hS (fun f8 H locs hf8 hP hD hS => ?_)
  have hP : va_P g.1 gx_cl (cW g ad so sw I n v (va_up us h (mt_wd n)) (va_up ct h f8)) H := hP
  have hD : va_D (gx_in (cW g ad so sw I n v us ct)) (cW g ad so sw I n v (va_up us h (mt_wd n)) (va_up ct h f8)) := hD
  refine lv_aload_n hx hb d_VT_fill_11 rfl (lv_at hl 0 rfl) ?_
  refine va_get (D := g.1) (own := R_VT) (ref := R_VT) (ci := 3) (v := .ref (ad 9)) (C := R_VT) (T := F_VT) (N := 8) hx hb hts in_VT hown hG.1 hP 8 rfl rfl 0 (by decide) (hts _ wd_120) (fun _ h9 => h9) rfl d_VT_fill_12 ?_
  refine lv_iload_n hx hb d_VT_fill_15 rfl (lv_at hl 2 rfl) ?_
  refine va_iald hx hb hG.1 hP 9 0 rfl rfl (vp_in_nI (by omega) (by decide)) d_VT_fill_16 ?_
  refine mt_ri (y := nI (vk x)) (by rw [nI_clamp (by omega)]; exact (hV _ (by omega)).1) ?_
  refine lv_if_ne (tgt := 40) hx hb d_VT_fill_17 (by decide) (mt_ne (b := 0) (by omega) (by decide) fun hc17 => ?_) (mt_eq (b := 0) (by omega) (by decide) fun hc17 => ?_)
  · ---- 17T
    refine lv_aload_n hx hb d_VT_fill_40 rfl (lv_at hl 0 rfl) ?_
    refine va_get (D := g.1) (own := R_VT) (ref := R_VT) (ci := 3) (v := .ref (ad 9)) (C := R_VT) (T := F_VT) (N := 8) hx hb hts in_VT hown hG.1 hP 8 rfl rfl 0 (by decide) (hts _ wd_120) (fun _ h9 => h9) rfl d_VT_fill_41 ?_
    refine lv_iload_n hx hb d_VT_fill_44 rfl (lv_at hl 2 rfl) ?_
    refine va_iald hx hb hG.1 hP 9 0 rfl rfl (vp_in_nI (by omega) (by decide)) d_VT_fill_45 ?_
    refine mt_ri (y := nI (vk x)) (by rw [nI_clamp (by omega)]; exact (hV _ (by omega)).1) ?_
    refine lv_iconst (v := nI 2) hx hb d_VT_fill_46 (by decide) ?_
    refine lv_icmp_ne (tgt := 64) hx hb d_VT_fill_47 (by decide) (mt_ne (by omega) (by omega) fun hc47 => ?_) (mt_eq (by omega) (by omega) fun hc47 => ?_)
    · ---- 17T 47T
      refine lv_iload hx hb d_VT_fill_64 (lv_at hl 4 rfl) ?_
      refine lv_iconst (v := nI 3) hx hb d_VT_fill_66 (by decide) ?_
      refine lv_icmp_ge (tgt := 133) hx hb d_VT_fill_67 (by decide) (fun _ => ?_) (fun h9 => absurd (by decide) h9)
      exact absurd (hvx.2.2.1 (by omega)) (fun h9 => by have h8 := (hvw (va x) (by omega)).2.2.2.2.1; have h7 := (hvw (vb x) (by omega)).2.2.2.2.1; omega)
    · ---- 17T 47F
      have hvan := hvx.2.2.2.1 hc47
      refine lv_aload_n hx hb d_VT_fill_50 rfl (lv_at hl 3 rfl) ?_
      refine lv_aload_n hx hb d_VT_fill_51 rfl (lv_at hl 0 rfl) ?_
      refine va_get (D := g.1) (own := R_VT) (ref := R_VT) (ci := 3) (v := .ref (ad 10)) (C := R_VT) (T := F_VT) (N := 8) hx hb hts in_VT hown hG.1 hP 8 rfl rfl 1 (by decide) (hts _ wd_121) (fun _ h9 => h9) rfl d_VT_fill_52 ?_
      refine lv_iload_n hx hb d_VT_fill_55 rfl (lv_at hl 2 rfl) ?_
      refine va_iald hx hb hG.1 hP 10 0 rfl rfl (vp_in_nI (by omega) (by decide)) d_VT_fill_56 ?_
      refine mt_ri (y := nI (va x)) (by rw [nI_clamp (by omega)]; exact (hV _ (by omega)).2.1) ?_
      refine lv_aload_n hx hb d_VT_fill_57 rfl (lv_at hl 1 rfl) ?_
      refine gc_cwv (va_runV (own := R_VT) (As := [.int (nI (va x)), .ref (so h)]) (rest := []) ⟨hx, hb, hml, hown, hts⟩ (c_MG_addMembers (l := l) (g := g) (ad := ad) (so := so) (sw := sw) (I := I) (n := n) (v := v) (us := (va_up us h (mt_wd n))) (ct := (va_up ct h f8)) (h := h) (uh := mt_wd n) (Fh := f8) (t := va x) hn ((va_up_ne _ _ (by omega)).trans (hun)) (fun q9 hq9 => mt_R_lt ((hRn.2 q9).mp (by rw [show (va_up us h (mt_wd n)) n = us n from va_up_ne _ _ (by omega), show (va_up ct h f8) n = ct n from va_up_ne _ _ (by omega)] at hq9; exact hq9))) (by omega) (by omega) hh25 (by omega) (va_up_self _ _ _) (va_up_self _ _ _) (mt_cp12 (by omega) hn12) (by omega)) (cwV 2 hts (gx_goodV wd_350 wd_351 wd_352 wd_2 wd_353) rfl rfl rfl (by decide +kernel) ⟨Nat.le_of_ble_eq_true rfl, Nat.le_of_ble_eq_true rfl⟩) (gc_preVW (gc_recv hP hG (ci := 2) rfl (q0 := 0) rfl) hP hG hD) rfl rfl hl.1 rfl (lv_room (Nat.le_of_ble_eq_true rfl)) d_VT_fill_58 ⟨Nat.le_refl _, Nat.le_refl _⟩) hD hS (fun u58 H locs hu58 hP hD hS => ?_)
      rw [bx_uu] at hP hD
      have hP : va_P g.1 gx_cl (cW g ad so sw I n v (va_up us h (mt_wd n)) (va_up ct h u58)) H := hP
      have hD : va_D (gx_in (cW g ad so sw I n v us ct)) (cW g ad so sw I n v (va_up us h (mt_wd n)) (va_up ct h u58)) := hD
      refine lv_goto (tgt := 133) hx hb d_VT_fill_61 (by decide) ?_
      have hfin : ∀ z, mt_el (mt_wd n) ((va_up ct h u58) h) z ↔ mt_V k a b vk va vb n 1 x z := by rw [show (va_up ct h u58) h = u58 from (va_up_self _ _ _)]; exact mt_Vf (S := mt_el (us n) (ct n)) hc47 (fun z => hRn.2 z) hf8 (fun z => by rw [hu58 z, show (va_up us h (mt_wd n)) n = us n from va_up_ne _ _ (by omega), show (va_up ct h f8) n = ct n from va_up_ne _ _ (by omega)])
      exact gc_retv (u := (va_up us h (mt_wd n), va_up ct h u58)) (Wf := fun (u : gUC) => cW g ad so sw I n v u.1 u.2) (post := fun (u : gUC) => (∀ q, ¬ mt_ch 3 h q → u.1 q = us q ∧ u.2 q = ct q) ∧ u.1 h = mt_wd n ∧ ∀ z, mt_el (mt_wd n) (u.2 h) z ↔ mt_V k a b vk va vb n 1 x z) hx hb hr hlk ⟨(fun q hq => by unfold mt_ch at hq; exact ⟨(va_up_ne _ _ (by omega)), (va_up_ne _ _ (by omega))⟩), (va_up_self _ _ _), hfin⟩ hP hD hS d_VT_fill_133
  · ---- 17F
    refine lv_aload_n hx hb d_VT_fill_20 rfl (lv_at hl 1 rfl) ?_
    refine lv_aload_n hx hb d_VT_fill_21 rfl (lv_at hl 3 rfl) ?_
    refine va_getN (D := g.1) (own := R_VT) (ref := R_MG) (ci := 2) (v := .ref (ad 1)) (C := R_MG) (T := F_MG) (N := 6) hx hb hts in_MG hown hG.1 hP 0 rfl rfl 0 (by decide) (va_Nw.use rfl (hG.2.1 _ nw_9)) (fun _ h9 => h9) rfl d_VT_fill_22 ?_
    refine lv_aload_n hx hb d_VT_fill_25 rfl (lv_at hl 0 rfl) ?_
    refine va_get (D := g.1) (own := R_VT) (ref := R_VT) (ci := 3) (v := .ref (ad 10)) (C := R_VT) (T := F_VT) (N := 8) hx hb hts in_VT hown hG.1 hP 8 rfl rfl 1 (by decide) (hts _ wd_121) (fun _ h9 => h9) rfl d_VT_fill_26 ?_
    refine lv_iload_n hx hb d_VT_fill_29 rfl (lv_at hl 2 rfl) ?_
    refine va_iald hx hb hG.1 hP 10 0 rfl rfl (vp_in_nI (by omega) (by decide)) d_VT_fill_30 ?_
    refine mt_ri (y := nI (va x)) (by rw [nI_clamp (by omega)]; exact (hV _ (by omega)).2.1) ?_
    refine vp_callSi (va_runV (own := R_VT) (As := [.int (nI (va x))]) (rest := [.ref (so h)]) ⟨hx, hb, hml, hown, hts⟩ (c_TT_profileOfConstant (l := l) (g := g) (ad := ad) (so := so) (sw := sw) (I := I) (n := n) (v := v) (us := (va_up us h (mt_wd n))) (ct := (va_up ct h f8)) (k := k) (a := a) (b := b) (cc0 := va x) hT hn hw (hvx.2.1 hc17)) (cwV 1 hts (gx_goodV wd_348 wd_182 wd_183 wd_3 wd_184) rfl rfl rfl (by decide +kernel) ⟨Nat.le_of_ble_eq_true rfl, Nat.le_of_ble_eq_true rfl⟩) (gc_preV (gc_recv hP hG (ci := 1) rfl (q0 := 1) rfl) hP hG) rfl rfl hl.1 rfl (lv_room (Nat.le_of_ble_eq_true rfl)) d_VT_fill_31 ⟨Nat.le_refl _, Nat.le_refl _⟩).run (fun r hr31 => ?_)
    subst hr31
    refine gc_caddE (u := mt_wd n) (f := f8) (by omega) (va_up_self _ _ _) (va_up_self _ _ _) (va_runV (own := R_VT) (As := [.int (nI (mt_pf k a b (mt_rc k a (va x)) n))]) (rest := []) ⟨hx, hb, hml, hown, hts⟩ (c_PS_add (l := l) (g := g) (o := so h) (w := sw h) (cp := mt_cp h) (u := mt_wd n) (f := f8) (x := mt_pf k a b (mt_rc k a (va x)) n) (by have := mt_pf_lt k a b (mt_rc k a (va x)) n; omega) (by exact mt_cp12 (by omega) hn12) (mt_cp_le _)) (cwV 1 hts (gx_goodV wd_349 wd_88 wd_89 wd_4 wd_90) rfl rfl rfl (by decide +kernel) ⟨Nat.le_of_ble_eq_true rfl, Nat.le_of_ble_eq_true rfl⟩) (gc_preVW (gc_recv hP hG (ci := 0) rfl (cw_oE (k := h) (u := mt_wd n) (by omega) (va_up_self _ _ _))) (cw_pickE hP (by omega) (va_up_self _ _ _) (va_up_self _ _ _)) hG (cw_pickDE hD (by omega) (va_up_self _ _ _) (va_up_self _ _ _))) rfl rfl hl.1 rfl (lv_room (Nat.le_of_ble_eq_true rfl)) d_VT_fill_34 ⟨Nat.le_refl _, Nat.le_refl _⟩) hP hD hS (fun f34 H locs hf34 hP hD hS => ?_)
    rw [bx_uu] at hP hD
    have hP : va_P g.1 gx_cl (cW g ad so sw I n v (va_up us h (mt_wd n)) (va_up ct h f34)) H := hP
    have hD : va_D (gx_in (cW g ad so sw I n v us ct)) (cW g ad so sw I n v (va_up us h (mt_wd n)) (va_up ct h f34)) := hD
    refine lv_goto (tgt := 133) hx hb d_VT_fill_37 (by decide) ?_
    have hfin : ∀ z, mt_el (mt_wd n) ((va_up ct h f34) h) z ↔ mt_V k a b vk va vb n 1 x z := by rw [show (va_up ct h f34) h = f34 from (va_up_self _ _ _)]; exact mt_Vc hc17 hf8 hf34
    exact gc_retv (u := (va_up us h (mt_wd n), va_up ct h f34)) (Wf := fun (u : gUC) => cW g ad so sw I n v u.1 u.2) (post := fun (u : gUC) => (∀ q, ¬ mt_ch 3 h q → u.1 q = us q ∧ u.2 q = ct q) ∧ u.1 h = mt_wd n ∧ ∀ z, mt_el (mt_wd n) (u.2 h) z ↔ mt_V k a b vk va vb n 1 x z) hx hb hr hlk ⟨(fun q hq => by unfold mt_ch at hq; exact ⟨(va_up_ne _ _ (by omega)), (va_up_ne _ _ (by omega))⟩), (va_up_self _ _ _), hfin⟩ hP hD hS d_VT_fill_133

set_option maxHeartbeats 4000000 in
set_option maxRecDepth 100000 in
theorem c_VT_fill2 {g : gG} {ad so sw : Nat → Nat} {I : Nat → Nat → Int32} {n v : Nat} {us : Nat → Nat} {ct : Nat → Nat → Int64}{k a b : Nat → Nat} {vk va vb vl : Nat → Nat} {x h : Nat} {l : Launch} (hT : mt_TR I n k a b) (hn12 : n ≤ 12) (hw : mt_wf k a b n) (hR : mt_RW us ct n k a b) (hV : mt_VR I v vk va vb vl) (hv20 : v ≤ 20) (hvw : mt_vw n v vk va vb vl) (hxv : x < v) (hvl : vl x ≤ 2) (hh : h = 18 ∨ (19 ≤ h ∧ h < 21) ∨ (22 ≤ h ∧ h < 24)) :
    gc_RV (S := gUC) l y_VT_fill (gx_ws y_VT_fill b_VT_fill 5 none) 5 113 g [.ref (ad 8), .ref (so h), .int (nI x), .ref (ad 0), .int (nI 2)] (cW g ad so sw I n v us ct) (fun (u : gUC) => cW g ad so sw I n v u.1 u.2) (fun (u : gUC) => (∀ q, ¬ mt_ch 2 h q → u.1 q = us q ∧ u.2 q = ct q) ∧ u.1 h = mt_wd n ∧ ∀ z, mt_el (mt_wd n) (u.2 h) z ↔ mt_V k a b vk va vb n 2 x z) := by
  refine gx_body (by decide) (Nat.le_of_ble_eq_true rfl) ?_
  intro p e s m below meth c ls hAt hB hl
  obtain ⟨hx, hb, hml, hown, hts, hr, hlk, hnm⟩ := hAt
  have hown : s.vm.findClass R_VT = some m.cls := hown
  obtain ⟨⟨hP, hG⟩, hD0⟩ := hB
  have hD := gx_D.self hD0
  have hS : va_S (gx_in (cW g ad so sw I n v us ct)) s.heap s.heap [] := va_S.rf
  have hl : lv_has ls 5 [(0, .ref (ad 8)), (1, .ref (so h)), (2, .int (nI x)), (3, .ref (ad 0)), (4, .int (nI 2))] := hl
  have hn : n ≤ 13 := by omega
  have hwd := mt_wd_le hn
  have hRn := hR n (Nat.le_refl n)
  have hun := hRn.1
  have hvx := hvw x hxv
  have hh25 : h < 25 := by omega
  refine lv_aload_n hx hb d_VT_fill_0 rfl (lv_at hl 1 rfl) ?_
  refine lv_aload_n hx hb d_VT_fill_1 rfl (lv_at hl 3 rfl) ?_
  refine va_getN (D := g.1) (own := R_VT) (ref := R_MG) (ci := 2) (v := .ref (ad 1)) (C := R_MG) (T := F_MG) (N := 6) hx hb hts in_MG hown hG.1 hP 0 rfl rfl 0 (by decide) (va_Nw.use rfl (hG.2.1 _ nw_9)) (fun _ h9 => h9) rfl d_VT_fill_2 ?_
  refine va_getN (D := g.1) (own := R_VT) (ref := R_TT) (ci := 1) (v := .int (nI n)) (C := R_TT) (T := F_TT) (N := 6) hx hb hts in_TT hown hG.1 hP 1 rfl rfl 5 (by decide) (va_Nw.use rfl (hG.2.1 _ nw_5)) (fun _ h9 => h9) rfl d_VT_fill_5 ?_
  refine gc_cresE (u := us h) (f := ct h) (w1 := mt_wd n) (by omega) rfl rfl (va_runV (own := R_VT) (As := [.int (nI n)]) (rest := []) ⟨hx, hb, hml, hown, hts⟩ (c_PS_restart (l := l) (g := g) (o := so h) (w := sw h) (cp := mt_cp h) (u := us h) (f := ct h) (b := n) (by omega) (by exact mt_cp12 (by omega) hn12) (mt_cp_le _)) (cwV 1 hts (gx_goodV wd_347 wd_81 wd_82 wd_4 wd_83) rfl rfl rfl (by decide +kernel) ⟨Nat.le_of_ble_eq_true rfl, Nat.le_of_ble_eq_true rfl⟩) (gc_preVW (gc_recv hP hG (ci := 0) rfl (cw_oE (k := h) (u := us h) (by omega) rfl)) (cw_pickE hP (by omega) rfl rfl) hG (cw_pickDE hD (by omega) rfl rfl)) rfl rfl hl.1 rfl (lv_room (Nat.le_of_ble_eq_true rfl)) d_VT_fill_8 ⟨Nat.le_refl _, Nat.le_refl _⟩) hP hD hS (fun f8 H locs hf8 hP hD hS => ?_)
  have hP : va_P g.1 gx_cl (cW g ad so sw I n v (va_up us h (mt_wd n)) (va_up ct h f8)) H := hP
  have hD : va_D (gx_in (cW g ad so sw I n v us ct)) (cW g ad so sw I n v (va_up us h (mt_wd n)) (va_up ct h f8)) := hD
  refine lv_aload_n hx hb d_VT_fill_11 rfl (lv_at hl 0 rfl) ?_
  refine va_get (D := g.1) (own := R_VT) (ref := R_VT) (ci := 3) (v := .ref (ad 9)) (C := R_VT) (T := F_VT) (N := 8) hx hb hts in_VT hown hG.1 hP 8 rfl rfl 0 (by decide) (hts _ wd_120) (fun _ h9 => h9) rfl d_VT_fill_12 ?_
  refine lv_iload_n hx hb d_VT_fill_15 rfl (lv_at hl 2 rfl) ?_
  refine va_iald hx hb hG.1 hP 9 0 rfl rfl (vp_in_nI (by omega) (by decide)) d_VT_fill_16 ?_
  refine mt_ri (y := nI (vk x)) (by rw [nI_clamp (by omega)]; exact (hV _ (by omega)).1) ?_
  refine lv_if_ne (tgt := 40) hx hb d_VT_fill_17 (by decide) (mt_ne (b := 0) (by omega) (by decide) fun hc17 => ?_) (mt_eq (b := 0) (by omega) (by decide) fun hc17 => ?_)
  · ---- 17T
    refine lv_aload_n hx hb d_VT_fill_40 rfl (lv_at hl 0 rfl) ?_
    refine va_get (D := g.1) (own := R_VT) (ref := R_VT) (ci := 3) (v := .ref (ad 9)) (C := R_VT) (T := F_VT) (N := 8) hx hb hts in_VT hown hG.1 hP 8 rfl rfl 0 (by decide) (hts _ wd_120) (fun _ h9 => h9) rfl d_VT_fill_41 ?_
    refine lv_iload_n hx hb d_VT_fill_44 rfl (lv_at hl 2 rfl) ?_
    refine va_iald hx hb hG.1 hP 9 0 rfl rfl (vp_in_nI (by omega) (by decide)) d_VT_fill_45 ?_
    refine mt_ri (y := nI (vk x)) (by rw [nI_clamp (by omega)]; exact (hV _ (by omega)).1) ?_
    refine lv_iconst (v := nI 2) hx hb d_VT_fill_46 (by decide) ?_
    refine lv_icmp_ne (tgt := 64) hx hb d_VT_fill_47 (by decide) (mt_ne (by omega) (by omega) fun hc47 => ?_) (mt_eq (by omega) (by omega) fun hc47 => ?_)
    · ---- 17T 47T
      refine lv_iload hx hb d_VT_fill_64 (lv_at hl 4 rfl) ?_
      refine lv_iconst (v := nI 3) hx hb d_VT_fill_66 (by decide) ?_
      refine lv_icmp_ge (tgt := 133) hx hb d_VT_fill_67 (by decide) (fun h9 => absurd h9 (by decide)) (fun _ => ?_)
      have hvp := hvx.2.2.1 (by omega)
      have hvl1 := (hvw (va x) (by omega)).2.2.2.2
      have hvl2 := (hvw (vb x) (by omega)).2.2.2.2
      refine lv_aload_n hx hb d_VT_fill_70 rfl (lv_at hl 0 rfl) ?_
      refine lv_aload_n hx hb d_VT_fill_71 rfl (lv_at hl 0 rfl) ?_
      refine va_get (D := g.1) (own := R_VT) (ref := R_VT) (ci := 3) (v := .ref (ad 13)) (C := R_VT) (T := F_VT) (N := 8) hx hb hts in_VT hown hG.1 hP 8 rfl rfl 6 (by decide) (hts _ wd_128) (fun _ h9 => h9) rfl d_VT_fill_72 ?_
      refine lv_iload hx hb d_VT_fill_75 (lv_at hl 4 rfl) ?_
      refine va_aldq hx hb hG.1 hP 13 3 rfl rfl (vp_in_nI (by omega) (by decide)) d_VT_fill_77 ?_
      refine mt_rv (w := .ref (so (19 + 2))) (by rw [nI_clamp (by omega)]; rfl) ?_
      refine lv_aload_n hx hb d_VT_fill_78 rfl (lv_at hl 0 rfl) ?_
      refine va_get (D := g.1) (own := R_VT) (ref := R_VT) (ci := 3) (v := .ref (ad 10)) (C := R_VT) (T := F_VT) (N := 8) hx hb hts in_VT hown hG.1 hP 8 rfl rfl 1 (by decide) (hts _ wd_121) (fun _ h9 => h9) rfl d_VT_fill_79 ?_
      refine lv_iload_n hx hb d_VT_fill_82 rfl (lv_at hl 2 rfl) ?_
      refine va_iald hx hb hG.1 hP 10 0 rfl rfl (vp_in_nI (by omega) (by decide)) d_VT_fill_83 ?_
      refine mt_ri (y := nI (va x)) (by rw [nI_clamp (by omega)]; exact (hV _ (by omega)).2.1) ?_
      refine lv_aload_n hx hb d_VT_fill_84 rfl (lv_at hl 3 rfl) ?_
      refine lv_iload hx hb d_VT_fill_85 (lv_at hl 4 rfl) ?_
      refine lv_iconst (v := nI 1) hx hb d_VT_fill_87 (by decide) ?_
      refine lv_iadd hx hb d_VT_fill_88 ?_
      refine mt_ri (y := nI 3) (nI_add _ _) ?_
      refine gc_cwv (va_runV (own := R_VT) (As := [.ref (so 21), .int (nI (va x)), .ref (ad 0), .int (nI 3)]) (rest := []) ⟨hx, hb, hml, hown, hts⟩ (c_VT_fill3 (l := l) (g := g) (ad := ad) (so := so) (sw := sw) (I := I) (n := n) (v := v) (us := (va_up us h (mt_wd n))) (ct := (va_up ct h f8)) (k := k) (a := a) (b := b) (vk := vk) (va := va) (vb := vb) (vl := vl) (x := va x) (h := 21) hT hn12 hw (mt_RW_fr hR (fun q9 hq9 => ⟨(va_up_ne _ _ (by omega)), (va_up_ne _ _ (by omega))⟩)) hV hv20 hvw (by omega) (by omega) (by omega)) (cwV 4 hts (gx_goodV wd_343 wd_345 ws_11 wd_6 wd_346) rfl rfl rfl (by decide +kernel) ⟨Nat.le_of_ble_eq_true rfl, Nat.le_of_ble_eq_true rfl⟩) (gc_preVW (gc_recv hP hG (ci := 3) rfl (q0 := 8) rfl) hP hG hD) rfl rfl hl.1 rfl (lv_room (Nat.le_of_ble_eq_true rfl)) d_VT_fill_89 ⟨Nat.le_refl _, Nat.le_refl _⟩) hD hS (fun u89 H locs hu89 hP hD hS => ?_)
      obtain ⟨us89, ct89⟩ := u89
      dsimp only at hP hD hu89
      obtain ⟨hfr89, hus89, hct89⟩ := hu89
      have hP : va_P g.1 gx_cl (cW g ad so sw I n v us89 ct89) H := hP
      have hD : va_D (gx_in (cW g ad so sw I n v us ct)) (cW g ad so sw I n v us89 ct89) := hD
      refine lv_aload_n hx hb d_VT_fill_92 rfl (lv_at hl 0 rfl) ?_
      refine lv_aload_n hx hb d_VT_fill_93 rfl (lv_at hl 0 rfl) ?_
      refine va_get (D := g.1) (own := R_VT) (ref := R_VT) (ci := 3) (v := .ref (ad 14)) (C := R_VT) (T := F_VT) (N := 8) hx hb hts in_VT hown hG.1 hP 8 rfl rfl 7 (by decide) (hts _ wd_129) (fun _ h9 => h9) rfl d_VT_fill_94 ?_
      refine lv_iload hx hb d_VT_fill_97 (lv_at hl 4 rfl) ?_
      refine va_aldq hx hb hG.1 hP 14 3 rfl rfl (vp_in_nI (by omega) (by decide)) d_VT_fill_99 ?_
      refine mt_rv (w := .ref (so (22 + 2))) (by rw [nI_clamp (by omega)]; rfl) ?_
      refine lv_aload_n hx hb d_VT_fill_100 rfl (lv_at hl 0 rfl) ?_
      refine va_get (D := g.1) (own := R_VT) (ref := R_VT) (ci := 3) (v := .ref (ad 11)) (C := R_VT) (T := F_VT) (N := 8) hx hb hts in_VT hown hG.1 hP 8 rfl rfl 2 (by decide) (hts _ wd_122) (fun _ h9 => h9) rfl d_VT_fill_101 ?_
      refine lv_iload_n hx hb d_VT_fill_104 rfl (lv_at hl 2 rfl) ?_
      refine va_iald hx hb hG.1 hP 11 0 rfl rfl (vp_in_nI (by omega) (by decide)) d_VT_fill_105 ?_
      refine mt_ri (y := nI (vb x)) (by rw [nI_clamp (by omega)]; exact (hV _ (by omega)).2.2.2 (by omega)) ?_
      refine lv_aload_n hx hb d_VT_fill_106 rfl (lv_at hl 3 rfl) ?_
      refine lv_iload hx hb d_VT_fill_107 (lv_at hl 4 rfl) ?_
      refine lv_iconst (v := nI 1) hx hb d_VT_fill_109 (by decide) ?_
      refine lv_iadd hx hb d_VT_fill_110 ?_
      refine mt_ri (y := nI 3) (nI_add _ _) ?_
      refine gc_cwv (va_runV (own := R_VT) (As := [.ref (so 24), .int (nI (vb x)), .ref (ad 0), .int (nI 3)]) (rest := []) ⟨hx, hb, hml, hown, hts⟩ (c_VT_fill3 (l := l) (g := g) (ad := ad) (so := so) (sw := sw) (I := I) (n := n) (v := v) (us := us89) (ct := ct89) (k := k) (a := a) (b := b) (vk := vk) (va := va) (vb := vb) (vl := vl) (x := vb x) (h := 24) hT hn12 hw (mt_RW_fr hR (fun q9 hq9 => ⟨((hfr89 q9 (by unfold mt_ch; omega)).1.trans (va_up_ne _ _ (by omega))), ((hfr89 q9 (by unfold mt_ch; omega)).2.trans (va_up_ne _ _ (by omega)))⟩)) hV hv20 hvw (by omega) (by omega) (by omega)) (cwV 4 hts (gx_goodV wd_343 wd_345 ws_11 wd_6 wd_346) rfl rfl rfl (by decide +kernel) ⟨Nat.le_of_ble_eq_true rfl, Nat.le_of_ble_eq_true rfl⟩) (gc_preVW (gc_recv hP hG (ci := 3) rfl (q0 := 8) rfl) hP hG hD) rfl rfl hl.1 rfl (lv_room (Nat.le_of_ble_eq_true rfl)) d_VT_fill_111 ⟨Nat.le_refl _, Nat.le_refl _⟩) hD hS (fun u111 H locs hu111 hP hD hS => ?_)
      obtain ⟨us111, ct111⟩ := u111
      dsimp only at hP hD hu111
      obtain ⟨hfr111, hus111, hct111⟩ := hu111
      have hP : va_P g.1 gx_cl (cW g ad so sw I n v us111 ct111) H := hP
      have hD : va_D (gx_in (cW g ad so sw I n v us ct)) (cW g ad so sw I n v us111 ct111) := hD
      have hX : ∀ z, mt_el (mt_wd n) (ct89 21) z ↔ mt_V k a b vk va vb n 1 (va x) z := hct89
      have hY : ∀ z, mt_el (mt_wd n) (ct111 24) z ↔ mt_V k a b vk va vb n 1 (vb x) z := hct111
      refine lv_aload_n hx hb d_VT_fill_114 rfl (lv_at hl 3 rfl) ?_
      refine lv_aload_n hx hb d_VT_fill_115 rfl (lv_at hl 0 rfl) ?_
      refine va_get (D := g.1) (own := R_VT) (ref := R_VT) (ci := 3) (v := .ref (ad 13)) (C := R_VT) (T := F_VT) (N := 8) hx hb hts in_VT hown hG.1 hP 8 rfl rfl 6 (by decide) (hts _ wd_128) (fun _ h9 => h9) rfl d_VT_fill_116 ?_
      refine lv_iload hx hb d_VT_fill_119 (lv_at hl 4 rfl) ?_
      refine va_aldq hx hb hG.1 hP 13 3 rfl rfl (vp_in_nI (by omega) (by decide)) d_VT_fill_121 ?_
      refine mt_rv (w := .ref (so (19 + 2))) (by rw [nI_clamp (by omega)]; rfl) ?_
      refine lv_aload_n hx hb d_VT_fill_122 rfl (lv_at hl 0 rfl) ?_
      refine va_get (D := g.1) (own := R_VT) (ref := R_VT) (ci := 3) (v := .ref (ad 14)) (C := R_VT) (T := F_VT) (N := 8) hx hb hts in_VT hown hG.1 hP 8 rfl rfl 7 (by decide) (hts _ wd_129) (fun _ h9 => h9) rfl d_VT_fill_123 ?_
      refine lv_iload hx hb d_VT_fill_126 (lv_at hl 4 rfl) ?_
      refine va_aldq hx hb hG.1 hP 14 3 rfl rfl (vp_in_nI (by omega) (by decide)) d_VT_fill_128 ?_
      refine mt_rv (w := .ref (so (22 + 2))) (by rw [nI_clamp (by omega)]; rfl) ?_
      refine lv_aload_n hx hb d_VT_fill_129 rfl (lv_at hl 1 rfl) ?_
      refine gc_cwv (va_runV (own := R_VT) (As := [.ref (so 21), .ref (so 24), .ref (so h)]) (rest := []) ⟨hx, hb, hml, hown, hts⟩ (c_MG_addPairs (l := l) (g := g) (ad := ad) (so := so) (sw := sw) (I := I) (n := n) (v := v) (us := us111) (ct := ct111) (k := k) (a := a) (b := b) (i := 21) (ui := mt_wd n) (Fi := ct89 21) (j := 24) (uj := mt_wd n) (Fj := ct111 24) (h := h) (uh := mt_wd n) (Fh := f8) hT hn hw (by decide) (by decide) (by decide) (by decide) (by omega) (by omega) ((hfr111 21 (by unfold mt_ch; omega)).1.trans hus89) ((hfr111 21 (by unfold mt_ch; omega)).2.trans rfl) (mt_cp12 (by decide) hn12) hus111 rfl (mt_cp12 (by decide) hn12) hh25 (by omega) ((hfr111 h (by unfold mt_ch; omega)).1.trans ((hfr89 h (by unfold mt_ch; omega)).1.trans (va_up_self _ _ _))) ((hfr111 h (by unfold mt_ch; omega)).2.trans ((hfr89 h (by unfold mt_ch; omega)).2.trans (va_up_self _ _ _))) (mt_cp12 (by omega) hn12) (by omega)) (cwV 3 hts (gx_goodV wd_355 wd_197 wd_198 wd_2 wd_199) rfl rfl rfl (by decide +kernel) ⟨Nat.le_of_ble_eq_true rfl, Nat.le_of_ble_eq_true rfl⟩) (gc_preVW (gc_recv hP hG (ci := 2) rfl (q0 := 0) rfl) hP hG hD) rfl rfl hl.1 rfl (lv_room (Nat.le_of_ble_eq_true rfl)) d_VT_fill_130 ⟨Nat.le_refl _, Nat.le_refl _⟩) hD hS (fun u130 H locs hu130 hP hD hS => ?_)
      obtain ⟨u130_0, u130_1, u130_2, u130_3⟩ := u130
      dsimp only at hP hD hu130
      have hP : va_P g.1 gx_cl (cW g ad so sw I n v (va_up (va_up (va_up us111 14 (mt_wd n)) 15 (mt_wd n)) 16 (mt_wd n)) (va_up (va_up (va_up (va_up ct111 14 u130_0) 15 u130_1) 16 u130_2) h u130_3)) H := hP
      have hD : va_D (gx_in (cW g ad so sw I n v us ct)) (cW g ad so sw I n v (va_up (va_up (va_up us111 14 (mt_wd n)) 15 (mt_wd n)) 16 (mt_wd n)) (va_up (va_up (va_up (va_up ct111 14 u130_0) 15 u130_1) 16 u130_2) h u130_3)) := hD
      have hu130 := hu130
      have hfin : ∀ z, mt_el (mt_wd n) ((va_up (va_up (va_up (va_up ct111 14 u130_0) 15 u130_1) 16 u130_2) h u130_3) h) z ↔ mt_V k a b vk va vb n 2 x z := by rw [show (va_up (va_up (va_up (va_up ct111 14 u130_0) 15 u130_1) 16 u130_2) h u130_3) h = u130_3 from (va_up_self _ _ _)]; exact mt_Vp (by omega) hX hY hf8 hu130
      exact gc_retv (u := (va_up (va_up (va_up us111 14 (mt_wd n)) 15 (mt_wd n)) 16 (mt_wd n), va_up (va_up (va_up (va_up ct111 14 u130_0) 15 u130_1) 16 u130_2) h u130_3)) (Wf := fun (u : gUC) => cW g ad so sw I n v u.1 u.2) (post := fun (u : gUC) => (∀ q, ¬ mt_ch 2 h q → u.1 q = us q ∧ u.2 q = ct q) ∧ u.1 h = mt_wd n ∧ ∀ z, mt_el (mt_wd n) (u.2 h) z ↔ mt_V k a b vk va vb n 2 x z) hx hb hr hlk ⟨(fun q hq => by unfold mt_ch at hq; exact ⟨((va_up_ne _ _ (by omega)).trans ((va_up_ne _ _ (by omega)).trans ((va_up_ne _ _ (by omega)).trans (((hfr111 q (by unfold mt_ch; omega)).1.trans ((hfr89 q (by unfold mt_ch; omega)).1.trans (va_up_ne _ _ (by omega)))))))), ((va_up_ne _ _ (by omega)).trans ((va_up_ne _ _ (by omega)).trans ((va_up_ne _ _ (by omega)).trans ((va_up_ne _ _ (by omega)).trans (((hfr111 q (by unfold mt_ch; omega)).2.trans ((hfr89 q (by unfold mt_ch; omega)).2.trans (va_up_ne _ _ (by omega)))))))))⟩), ((va_up_ne _ _ (by omega)).trans ((va_up_ne _ _ (by omega)).trans ((va_up_ne _ _ (by omega)).trans (((hfr111 h (by unfold mt_ch; omega)).1.trans ((hfr89 h (by unfold mt_ch; omega)).1.trans (va_up_self _ _ _))))))), hfin⟩ hP hD hS d_VT_fill_133
    · ---- 17T 47F
      have hvan := hvx.2.2.2.1 hc47
      refine lv_aload_n hx hb d_VT_fill_50 rfl (lv_at hl 3 rfl) ?_
      refine lv_aload_n hx hb d_VT_fill_51 rfl (lv_at hl 0 rfl) ?_
      refine va_get (D := g.1) (own := R_VT) (ref := R_VT) (ci := 3) (v := .ref (ad 10)) (C := R_VT) (T := F_VT) (N := 8) hx hb hts in_VT hown hG.1 hP 8 rfl rfl 1 (by decide) (hts _ wd_121) (fun _ h9 => h9) rfl d_VT_fill_52 ?_
      refine lv_iload_n hx hb d_VT_fill_55 rfl (lv_at hl 2 rfl) ?_
      refine va_iald hx hb hG.1 hP 10 0 rfl rfl (vp_in_nI (by omega) (by decide)) d_VT_fill_56 ?_
      refine mt_ri (y := nI (va x)) (by rw [nI_clamp (by omega)]; exact (hV _ (by omega)).2.1) ?_
      refine lv_aload_n hx hb d_VT_fill_57 rfl (lv_at hl 1 rfl) ?_
      refine gc_cwv (va_runV (own := R_VT) (As := [.int (nI (va x)), .ref (so h)]) (rest := []) ⟨hx, hb, hml, hown, hts⟩ (c_MG_addMembers (l := l) (g := g) (ad := ad) (so := so) (sw := sw) (I := I) (n := n) (v := v) (us := (va_up us h (mt_wd n))) (ct := (va_up ct h f8)) (h := h) (uh := mt_wd n) (Fh := f8) (t := va x) hn ((va_up_ne _ _ (by omega)).trans (hun)) (fun q9 hq9 => mt_R_lt ((hRn.2 q9).mp (by rw [show (va_up us h (mt_wd n)) n = us n from va_up_ne _ _ (by omega), show (va_up ct h f8) n = ct n from va_up_ne _ _ (by omega)] at hq9; exact hq9))) (by omega) (by omega) hh25 (by omega) (va_up_self _ _ _) (va_up_self _ _ _) (mt_cp12 (by omega) hn12) (by omega)) (cwV 2 hts (gx_goodV wd_350 wd_351 wd_352 wd_2 wd_353) rfl rfl rfl (by decide +kernel) ⟨Nat.le_of_ble_eq_true rfl, Nat.le_of_ble_eq_true rfl⟩) (gc_preVW (gc_recv hP hG (ci := 2) rfl (q0 := 0) rfl) hP hG hD) rfl rfl hl.1 rfl (lv_room (Nat.le_of_ble_eq_true rfl)) d_VT_fill_58 ⟨Nat.le_refl _, Nat.le_refl _⟩) hD hS (fun u58 H locs hu58 hP hD hS => ?_)
      rw [bx_uu] at hP hD
      have hP : va_P g.1 gx_cl (cW g ad so sw I n v (va_up us h (mt_wd n)) (va_up ct h u58)) H := hP
      have hD : va_D (gx_in (cW g ad so sw I n v us ct)) (cW g ad so sw I n v (va_up us h (mt_wd n)) (va_up ct h u58)) := hD
      refine lv_goto (tgt := 133) hx hb d_VT_fill_61 (by decide) ?_
      have hfin : ∀ z, mt_el (mt_wd n) ((va_up ct h u58) h) z ↔ mt_V k a b vk va vb n 2 x z := by rw [show (va_up ct h u58) h = u58 from (va_up_self _ _ _)]; exact mt_Vf (S := mt_el (us n) (ct n)) hc47 (fun z => hRn.2 z) hf8 (fun z => by rw [hu58 z, show (va_up us h (mt_wd n)) n = us n from va_up_ne _ _ (by omega), show (va_up ct h f8) n = ct n from va_up_ne _ _ (by omega)])
      exact gc_retv (u := (va_up us h (mt_wd n), va_up ct h u58)) (Wf := fun (u : gUC) => cW g ad so sw I n v u.1 u.2) (post := fun (u : gUC) => (∀ q, ¬ mt_ch 2 h q → u.1 q = us q ∧ u.2 q = ct q) ∧ u.1 h = mt_wd n ∧ ∀ z, mt_el (mt_wd n) (u.2 h) z ↔ mt_V k a b vk va vb n 2 x z) hx hb hr hlk ⟨(fun q hq => by unfold mt_ch at hq; exact ⟨(va_up_ne _ _ (by omega)), (va_up_ne _ _ (by omega))⟩), (va_up_self _ _ _), hfin⟩ hP hD hS d_VT_fill_133
  · ---- 17F
    refine lv_aload_n hx hb d_VT_fill_20 rfl (lv_at hl 1 rfl) ?_
    refine lv_aload_n hx hb d_VT_fill_21 rfl (lv_at hl 3 rfl) ?_
    refine va_getN (D := g.1) (own := R_VT) (ref := R_MG) (ci := 2) (v := .ref (ad 1)) (C := R_MG) (T := F_MG) (N := 6) hx hb hts in_MG hown hG.1 hP 0 rfl rfl 0 (by decide) (va_Nw.use rfl (hG.2.1 _ nw_9)) (fun _ h9 => h9) rfl d_VT_fill_22 ?_
    refine lv_aload_n hx hb d_VT_fill_25 rfl (lv_at hl 0 rfl) ?_
    refine va_get (D := g.1) (own := R_VT) (ref := R_VT) (ci := 3) (v := .ref (ad 10)) (C := R_VT) (T := F_VT) (N := 8) hx hb hts in_VT hown hG.1 hP 8 rfl rfl 1 (by decide) (hts _ wd_121) (fun _ h9 => h9) rfl d_VT_fill_26 ?_
    refine lv_iload_n hx hb d_VT_fill_29 rfl (lv_at hl 2 rfl) ?_
    refine va_iald hx hb hG.1 hP 10 0 rfl rfl (vp_in_nI (by omega) (by decide)) d_VT_fill_30 ?_
    refine mt_ri (y := nI (va x)) (by rw [nI_clamp (by omega)]; exact (hV _ (by omega)).2.1) ?_
    refine vp_callSi (va_runV (own := R_VT) (As := [.int (nI (va x))]) (rest := [.ref (so h)]) ⟨hx, hb, hml, hown, hts⟩ (c_TT_profileOfConstant (l := l) (g := g) (ad := ad) (so := so) (sw := sw) (I := I) (n := n) (v := v) (us := (va_up us h (mt_wd n))) (ct := (va_up ct h f8)) (k := k) (a := a) (b := b) (cc0 := va x) hT hn hw (hvx.2.1 hc17)) (cwV 1 hts (gx_goodV wd_348 wd_182 wd_183 wd_3 wd_184) rfl rfl rfl (by decide +kernel) ⟨Nat.le_of_ble_eq_true rfl, Nat.le_of_ble_eq_true rfl⟩) (gc_preV (gc_recv hP hG (ci := 1) rfl (q0 := 1) rfl) hP hG) rfl rfl hl.1 rfl (lv_room (Nat.le_of_ble_eq_true rfl)) d_VT_fill_31 ⟨Nat.le_refl _, Nat.le_refl _⟩).run (fun r hr31 => ?_)
    subst hr31
    refine gc_caddE (u := mt_wd n) (f := f8) (by omega) (va_up_self _ _ _) (va_up_self _ _ _) (va_runV (own := R_VT) (As := [.int (nI (mt_pf k a b (mt_rc k a (va x)) n))]) (rest := []) ⟨hx, hb, hml, hown, hts⟩ (c_PS_add (l := l) (g := g) (o := so h) (w := sw h) (cp := mt_cp h) (u := mt_wd n) (f := f8) (x := mt_pf k a b (mt_rc k a (va x)) n) (by have := mt_pf_lt k a b (mt_rc k a (va x)) n; omega) (by exact mt_cp12 (by omega) hn12) (mt_cp_le _)) (cwV 1 hts (gx_goodV wd_349 wd_88 wd_89 wd_4 wd_90) rfl rfl rfl (by decide +kernel) ⟨Nat.le_of_ble_eq_true rfl, Nat.le_of_ble_eq_true rfl⟩) (gc_preVW (gc_recv hP hG (ci := 0) rfl (cw_oE (k := h) (u := mt_wd n) (by omega) (va_up_self _ _ _))) (cw_pickE hP (by omega) (va_up_self _ _ _) (va_up_self _ _ _)) hG (cw_pickDE hD (by omega) (va_up_self _ _ _) (va_up_self _ _ _))) rfl rfl hl.1 rfl (lv_room (Nat.le_of_ble_eq_true rfl)) d_VT_fill_34 ⟨Nat.le_refl _, Nat.le_refl _⟩) hP hD hS (fun f34 H locs hf34 hP hD hS => ?_)
    rw [bx_uu] at hP hD
    have hP : va_P g.1 gx_cl (cW g ad so sw I n v (va_up us h (mt_wd n)) (va_up ct h f34)) H := hP
    have hD : va_D (gx_in (cW g ad so sw I n v us ct)) (cW g ad so sw I n v (va_up us h (mt_wd n)) (va_up ct h f34)) := hD
    refine lv_goto (tgt := 133) hx hb d_VT_fill_37 (by decide) ?_
    have hfin : ∀ z, mt_el (mt_wd n) ((va_up ct h f34) h) z ↔ mt_V k a b vk va vb n 2 x z := by rw [show (va_up ct h f34) h = f34 from (va_up_self _ _ _)]; exact mt_Vc hc17 hf8 hf34
    exact gc_retv (u := (va_up us h (mt_wd n), va_up ct h f34)) (Wf := fun (u : gUC) => cW g ad so sw I n v u.1 u.2) (post := fun (u : gUC) => (∀ q, ¬ mt_ch 2 h q → u.1 q = us q ∧ u.2 q = ct q) ∧ u.1 h = mt_wd n ∧ ∀ z, mt_el (mt_wd n) (u.2 h) z ↔ mt_V k a b vk va vb n 2 x z) hx hb hr hlk ⟨(fun q hq => by unfold mt_ch at hq; exact ⟨(va_up_ne _ _ (by omega)), (va_up_ne _ _ (by omega))⟩), (va_up_self _ _ _), hfin⟩ hP hD hS d_VT_fill_133

set_option maxHeartbeats 4000000 in
set_option maxRecDepth 100000 in
theorem c_VT_fill1 {g : gG} {ad so sw : Nat → Nat} {I : Nat → Nat → Int32} {n v : Nat} {us : Nat → Nat} {ct : Nat → Nat → Int64}{k a b : Nat → Nat} {vk va vb vl : Nat → Nat} {x h : Nat} {l : Launch} (hT : mt_TR I n k a b) (hn12 : n ≤ 12) (hw : mt_wf k a b n) (hR : mt_RW us ct n k a b) (hV : mt_VR I v vk va vb vl) (hv20 : v ≤ 20) (hvw : mt_vw n v vk va vb vl) (hxv : x < v) (hvl : vl x ≤ 3) (hh : h = 18 ∨ (19 ≤ h ∧ h < 20) ∨ (22 ≤ h ∧ h < 23)) :
    gc_RV (S := gUC) l y_VT_fill (gx_ws y_VT_fill b_VT_fill 5 none) 6 137 g [.ref (ad 8), .ref (so h), .int (nI x), .ref (ad 0), .int (nI 1)] (cW g ad so sw I n v us ct) (fun (u : gUC) => cW g ad so sw I n v u.1 u.2) (fun (u : gUC) => (∀ q, ¬ mt_ch 1 h q → u.1 q = us q ∧ u.2 q = ct q) ∧ u.1 h = mt_wd n ∧ ∀ z, mt_el (mt_wd n) (u.2 h) z ↔ mt_V k a b vk va vb n 3 x z) := by
  refine gx_body (by decide) (Nat.le_of_ble_eq_true rfl) ?_
  intro p e s m below meth c ls hAt hB hl
  obtain ⟨hx, hb, hml, hown, hts, hr, hlk, hnm⟩ := hAt
  have hown : s.vm.findClass R_VT = some m.cls := hown
  obtain ⟨⟨hP, hG⟩, hD0⟩ := hB
  have hD := gx_D.self hD0
  have hS : va_S (gx_in (cW g ad so sw I n v us ct)) s.heap s.heap [] := va_S.rf
  have hl : lv_has ls 5 [(0, .ref (ad 8)), (1, .ref (so h)), (2, .int (nI x)), (3, .ref (ad 0)), (4, .int (nI 1))] := hl
  have hn : n ≤ 13 := by omega
  have hwd := mt_wd_le hn
  have hRn := hR n (Nat.le_refl n)
  have hun := hRn.1
  have hvx := hvw x hxv
  have hh25 : h < 25 := by omega
  refine lv_aload_n hx hb d_VT_fill_0 rfl (lv_at hl 1 rfl) ?_
  refine lv_aload_n hx hb d_VT_fill_1 rfl (lv_at hl 3 rfl) ?_
  refine va_getN (D := g.1) (own := R_VT) (ref := R_MG) (ci := 2) (v := .ref (ad 1)) (C := R_MG) (T := F_MG) (N := 6) hx hb hts in_MG hown hG.1 hP 0 rfl rfl 0 (by decide) (va_Nw.use rfl (hG.2.1 _ nw_9)) (fun _ h9 => h9) rfl d_VT_fill_2 ?_
  refine va_getN (D := g.1) (own := R_VT) (ref := R_TT) (ci := 1) (v := .int (nI n)) (C := R_TT) (T := F_TT) (N := 6) hx hb hts in_TT hown hG.1 hP 1 rfl rfl 5 (by decide) (va_Nw.use rfl (hG.2.1 _ nw_5)) (fun _ h9 => h9) rfl d_VT_fill_5 ?_
  refine gc_cresE (u := us h) (f := ct h) (w1 := mt_wd n) (by omega) rfl rfl (va_runV (own := R_VT) (As := [.int (nI n)]) (rest := []) ⟨hx, hb, hml, hown, hts⟩ (c_PS_restart (l := l) (g := g) (o := so h) (w := sw h) (cp := mt_cp h) (u := us h) (f := ct h) (b := n) (by omega) (by exact mt_cp12 (by omega) hn12) (mt_cp_le _)) (cwV 1 hts (gx_goodV wd_347 wd_81 wd_82 wd_4 wd_83) rfl rfl rfl (by decide +kernel) ⟨Nat.le_of_ble_eq_true rfl, Nat.le_of_ble_eq_true rfl⟩) (gc_preVW (gc_recv hP hG (ci := 0) rfl (cw_oE (k := h) (u := us h) (by omega) rfl)) (cw_pickE hP (by omega) rfl rfl) hG (cw_pickDE hD (by omega) rfl rfl)) rfl rfl hl.1 rfl (lv_room (Nat.le_of_ble_eq_true rfl)) d_VT_fill_8 ⟨Nat.le_refl _, Nat.le_refl _⟩) hP hD hS (fun f8 H locs hf8 hP hD hS => ?_)
  have hP : va_P g.1 gx_cl (cW g ad so sw I n v (va_up us h (mt_wd n)) (va_up ct h f8)) H := hP
  have hD : va_D (gx_in (cW g ad so sw I n v us ct)) (cW g ad so sw I n v (va_up us h (mt_wd n)) (va_up ct h f8)) := hD
  refine lv_aload_n hx hb d_VT_fill_11 rfl (lv_at hl 0 rfl) ?_
  refine va_get (D := g.1) (own := R_VT) (ref := R_VT) (ci := 3) (v := .ref (ad 9)) (C := R_VT) (T := F_VT) (N := 8) hx hb hts in_VT hown hG.1 hP 8 rfl rfl 0 (by decide) (hts _ wd_120) (fun _ h9 => h9) rfl d_VT_fill_12 ?_
  refine lv_iload_n hx hb d_VT_fill_15 rfl (lv_at hl 2 rfl) ?_
  refine va_iald hx hb hG.1 hP 9 0 rfl rfl (vp_in_nI (by omega) (by decide)) d_VT_fill_16 ?_
  refine mt_ri (y := nI (vk x)) (by rw [nI_clamp (by omega)]; exact (hV _ (by omega)).1) ?_
  refine lv_if_ne (tgt := 40) hx hb d_VT_fill_17 (by decide) (mt_ne (b := 0) (by omega) (by decide) fun hc17 => ?_) (mt_eq (b := 0) (by omega) (by decide) fun hc17 => ?_)
  · ---- 17T
    refine lv_aload_n hx hb d_VT_fill_40 rfl (lv_at hl 0 rfl) ?_
    refine va_get (D := g.1) (own := R_VT) (ref := R_VT) (ci := 3) (v := .ref (ad 9)) (C := R_VT) (T := F_VT) (N := 8) hx hb hts in_VT hown hG.1 hP 8 rfl rfl 0 (by decide) (hts _ wd_120) (fun _ h9 => h9) rfl d_VT_fill_41 ?_
    refine lv_iload_n hx hb d_VT_fill_44 rfl (lv_at hl 2 rfl) ?_
    refine va_iald hx hb hG.1 hP 9 0 rfl rfl (vp_in_nI (by omega) (by decide)) d_VT_fill_45 ?_
    refine mt_ri (y := nI (vk x)) (by rw [nI_clamp (by omega)]; exact (hV _ (by omega)).1) ?_
    refine lv_iconst (v := nI 2) hx hb d_VT_fill_46 (by decide) ?_
    refine lv_icmp_ne (tgt := 64) hx hb d_VT_fill_47 (by decide) (mt_ne (by omega) (by omega) fun hc47 => ?_) (mt_eq (by omega) (by omega) fun hc47 => ?_)
    · ---- 17T 47T
      refine lv_iload hx hb d_VT_fill_64 (lv_at hl 4 rfl) ?_
      refine lv_iconst (v := nI 3) hx hb d_VT_fill_66 (by decide) ?_
      refine lv_icmp_ge (tgt := 133) hx hb d_VT_fill_67 (by decide) (fun h9 => absurd h9 (by decide)) (fun _ => ?_)
      have hvp := hvx.2.2.1 (by omega)
      have hvl1 := (hvw (va x) (by omega)).2.2.2.2
      have hvl2 := (hvw (vb x) (by omega)).2.2.2.2
      refine lv_aload_n hx hb d_VT_fill_70 rfl (lv_at hl 0 rfl) ?_
      refine lv_aload_n hx hb d_VT_fill_71 rfl (lv_at hl 0 rfl) ?_
      refine va_get (D := g.1) (own := R_VT) (ref := R_VT) (ci := 3) (v := .ref (ad 13)) (C := R_VT) (T := F_VT) (N := 8) hx hb hts in_VT hown hG.1 hP 8 rfl rfl 6 (by decide) (hts _ wd_128) (fun _ h9 => h9) rfl d_VT_fill_72 ?_
      refine lv_iload hx hb d_VT_fill_75 (lv_at hl 4 rfl) ?_
      refine va_aldq hx hb hG.1 hP 13 3 rfl rfl (vp_in_nI (by omega) (by decide)) d_VT_fill_77 ?_
      refine mt_rv (w := .ref (so (19 + 1))) (by rw [nI_clamp (by omega)]; rfl) ?_
      refine lv_aload_n hx hb d_VT_fill_78 rfl (lv_at hl 0 rfl) ?_
      refine va_get (D := g.1) (own := R_VT) (ref := R_VT) (ci := 3) (v := .ref (ad 10)) (C := R_VT) (T := F_VT) (N := 8) hx hb hts in_VT hown hG.1 hP 8 rfl rfl 1 (by decide) (hts _ wd_121) (fun _ h9 => h9) rfl d_VT_fill_79 ?_
      refine lv_iload_n hx hb d_VT_fill_82 rfl (lv_at hl 2 rfl) ?_
      refine va_iald hx hb hG.1 hP 10 0 rfl rfl (vp_in_nI (by omega) (by decide)) d_VT_fill_83 ?_
      refine mt_ri (y := nI (va x)) (by rw [nI_clamp (by omega)]; exact (hV _ (by omega)).2.1) ?_
      refine lv_aload_n hx hb d_VT_fill_84 rfl (lv_at hl 3 rfl) ?_
      refine lv_iload hx hb d_VT_fill_85 (lv_at hl 4 rfl) ?_
      refine lv_iconst (v := nI 1) hx hb d_VT_fill_87 (by decide) ?_
      refine lv_iadd hx hb d_VT_fill_88 ?_
      refine mt_ri (y := nI 2) (nI_add _ _) ?_
      refine gc_cwv (va_runV (own := R_VT) (As := [.ref (so 20), .int (nI (va x)), .ref (ad 0), .int (nI 2)]) (rest := []) ⟨hx, hb, hml, hown, hts⟩ (c_VT_fill2 (l := l) (g := g) (ad := ad) (so := so) (sw := sw) (I := I) (n := n) (v := v) (us := (va_up us h (mt_wd n))) (ct := (va_up ct h f8)) (k := k) (a := a) (b := b) (vk := vk) (va := va) (vb := vb) (vl := vl) (x := va x) (h := 20) hT hn12 hw (mt_RW_fr hR (fun q9 hq9 => ⟨(va_up_ne _ _ (by omega)), (va_up_ne _ _ (by omega))⟩)) hV hv20 hvw (by omega) (by omega) (by omega)) (cwV 4 hts (gx_goodV wd_343 wd_345 ws_11 wd_6 wd_346) rfl rfl rfl (by decide +kernel) ⟨Nat.le_of_ble_eq_true rfl, Nat.le_of_ble_eq_true rfl⟩) (gc_preVW (gc_recv hP hG (ci := 3) rfl (q0 := 8) rfl) hP hG hD) rfl rfl hl.1 rfl (lv_room (Nat.le_of_ble_eq_true rfl)) d_VT_fill_89 ⟨Nat.le_refl _, Nat.le_refl _⟩) hD hS (fun u89 H locs hu89 hP hD hS => ?_)
      obtain ⟨us89, ct89⟩ := u89
      dsimp only at hP hD hu89
      obtain ⟨hfr89, hus89, hct89⟩ := hu89
      have hP : va_P g.1 gx_cl (cW g ad so sw I n v us89 ct89) H := hP
      have hD : va_D (gx_in (cW g ad so sw I n v us ct)) (cW g ad so sw I n v us89 ct89) := hD
      refine lv_aload_n hx hb d_VT_fill_92 rfl (lv_at hl 0 rfl) ?_
      refine lv_aload_n hx hb d_VT_fill_93 rfl (lv_at hl 0 rfl) ?_
      refine va_get (D := g.1) (own := R_VT) (ref := R_VT) (ci := 3) (v := .ref (ad 14)) (C := R_VT) (T := F_VT) (N := 8) hx hb hts in_VT hown hG.1 hP 8 rfl rfl 7 (by decide) (hts _ wd_129) (fun _ h9 => h9) rfl d_VT_fill_94 ?_
      refine lv_iload hx hb d_VT_fill_97 (lv_at hl 4 rfl) ?_
      refine va_aldq hx hb hG.1 hP 14 3 rfl rfl (vp_in_nI (by omega) (by decide)) d_VT_fill_99 ?_
      refine mt_rv (w := .ref (so (22 + 1))) (by rw [nI_clamp (by omega)]; rfl) ?_
      refine lv_aload_n hx hb d_VT_fill_100 rfl (lv_at hl 0 rfl) ?_
      refine va_get (D := g.1) (own := R_VT) (ref := R_VT) (ci := 3) (v := .ref (ad 11)) (C := R_VT) (T := F_VT) (N := 8) hx hb hts in_VT hown hG.1 hP 8 rfl rfl 2 (by decide) (hts _ wd_122) (fun _ h9 => h9) rfl d_VT_fill_101 ?_
      refine lv_iload_n hx hb d_VT_fill_104 rfl (lv_at hl 2 rfl) ?_
      refine va_iald hx hb hG.1 hP 11 0 rfl rfl (vp_in_nI (by omega) (by decide)) d_VT_fill_105 ?_
      refine mt_ri (y := nI (vb x)) (by rw [nI_clamp (by omega)]; exact (hV _ (by omega)).2.2.2 (by omega)) ?_
      refine lv_aload_n hx hb d_VT_fill_106 rfl (lv_at hl 3 rfl) ?_
      refine lv_iload hx hb d_VT_fill_107 (lv_at hl 4 rfl) ?_
      refine lv_iconst (v := nI 1) hx hb d_VT_fill_109 (by decide) ?_
      refine lv_iadd hx hb d_VT_fill_110 ?_
      refine mt_ri (y := nI 2) (nI_add _ _) ?_
      refine gc_cwv (va_runV (own := R_VT) (As := [.ref (so 23), .int (nI (vb x)), .ref (ad 0), .int (nI 2)]) (rest := []) ⟨hx, hb, hml, hown, hts⟩ (c_VT_fill2 (l := l) (g := g) (ad := ad) (so := so) (sw := sw) (I := I) (n := n) (v := v) (us := us89) (ct := ct89) (k := k) (a := a) (b := b) (vk := vk) (va := va) (vb := vb) (vl := vl) (x := vb x) (h := 23) hT hn12 hw (mt_RW_fr hR (fun q9 hq9 => ⟨((hfr89 q9 (by unfold mt_ch; omega)).1.trans (va_up_ne _ _ (by omega))), ((hfr89 q9 (by unfold mt_ch; omega)).2.trans (va_up_ne _ _ (by omega)))⟩)) hV hv20 hvw (by omega) (by omega) (by omega)) (cwV 4 hts (gx_goodV wd_343 wd_345 ws_11 wd_6 wd_346) rfl rfl rfl (by decide +kernel) ⟨Nat.le_of_ble_eq_true rfl, Nat.le_of_ble_eq_true rfl⟩) (gc_preVW (gc_recv hP hG (ci := 3) rfl (q0 := 8) rfl) hP hG hD) rfl rfl hl.1 rfl (lv_room (Nat.le_of_ble_eq_true rfl)) d_VT_fill_111 ⟨Nat.le_refl _, Nat.le_refl _⟩) hD hS (fun u111 H locs hu111 hP hD hS => ?_)
      obtain ⟨us111, ct111⟩ := u111
      dsimp only at hP hD hu111
      obtain ⟨hfr111, hus111, hct111⟩ := hu111
      have hP : va_P g.1 gx_cl (cW g ad so sw I n v us111 ct111) H := hP
      have hD : va_D (gx_in (cW g ad so sw I n v us ct)) (cW g ad so sw I n v us111 ct111) := hD
      have hX : ∀ z, mt_el (mt_wd n) (ct89 20) z ↔ mt_V k a b vk va vb n 2 (va x) z := hct89
      have hY : ∀ z, mt_el (mt_wd n) (ct111 23) z ↔ mt_V k a b vk va vb n 2 (vb x) z := hct111
      refine lv_aload_n hx hb d_VT_fill_114 rfl (lv_at hl 3 rfl) ?_
      refine lv_aload_n hx hb d_VT_fill_115 rfl (lv_at hl 0 rfl) ?_
      refine va_get (D := g.1) (own := R_VT) (ref := R_VT) (ci := 3) (v := .ref (ad 13)) (C := R_VT) (T := F_VT) (N := 8) hx hb hts in_VT hown hG.1 hP 8 rfl rfl 6 (by decide) (hts _ wd_128) (fun _ h9 => h9) rfl d_VT_fill_116 ?_
      refine lv_iload hx hb d_VT_fill_119 (lv_at hl 4 rfl) ?_
      refine va_aldq hx hb hG.1 hP 13 3 rfl rfl (vp_in_nI (by omega) (by decide)) d_VT_fill_121 ?_
      refine mt_rv (w := .ref (so (19 + 1))) (by rw [nI_clamp (by omega)]; rfl) ?_
      refine lv_aload_n hx hb d_VT_fill_122 rfl (lv_at hl 0 rfl) ?_
      refine va_get (D := g.1) (own := R_VT) (ref := R_VT) (ci := 3) (v := .ref (ad 14)) (C := R_VT) (T := F_VT) (N := 8) hx hb hts in_VT hown hG.1 hP 8 rfl rfl 7 (by decide) (hts _ wd_129) (fun _ h9 => h9) rfl d_VT_fill_123 ?_
      refine lv_iload hx hb d_VT_fill_126 (lv_at hl 4 rfl) ?_
      refine va_aldq hx hb hG.1 hP 14 3 rfl rfl (vp_in_nI (by omega) (by decide)) d_VT_fill_128 ?_
      refine mt_rv (w := .ref (so (22 + 1))) (by rw [nI_clamp (by omega)]; rfl) ?_
      refine lv_aload_n hx hb d_VT_fill_129 rfl (lv_at hl 1 rfl) ?_
      refine gc_cwv (va_runV (own := R_VT) (As := [.ref (so 20), .ref (so 23), .ref (so h)]) (rest := []) ⟨hx, hb, hml, hown, hts⟩ (c_MG_addPairs (l := l) (g := g) (ad := ad) (so := so) (sw := sw) (I := I) (n := n) (v := v) (us := us111) (ct := ct111) (k := k) (a := a) (b := b) (i := 20) (ui := mt_wd n) (Fi := ct89 20) (j := 23) (uj := mt_wd n) (Fj := ct111 23) (h := h) (uh := mt_wd n) (Fh := f8) hT hn hw (by decide) (by decide) (by decide) (by decide) (by omega) (by omega) ((hfr111 20 (by unfold mt_ch; omega)).1.trans hus89) ((hfr111 20 (by unfold mt_ch; omega)).2.trans rfl) (mt_cp12 (by decide) hn12) hus111 rfl (mt_cp12 (by decide) hn12) hh25 (by omega) ((hfr111 h (by unfold mt_ch; omega)).1.trans ((hfr89 h (by unfold mt_ch; omega)).1.trans (va_up_self _ _ _))) ((hfr111 h (by unfold mt_ch; omega)).2.trans ((hfr89 h (by unfold mt_ch; omega)).2.trans (va_up_self _ _ _))) (mt_cp12 (by omega) hn12) (by omega)) (cwV 3 hts (gx_goodV wd_355 wd_197 wd_198 wd_2 wd_199) rfl rfl rfl (by decide +kernel) ⟨Nat.le_of_ble_eq_true rfl, Nat.le_of_ble_eq_true rfl⟩) (gc_preVW (gc_recv hP hG (ci := 2) rfl (q0 := 0) rfl) hP hG hD) rfl rfl hl.1 rfl (lv_room (Nat.le_of_ble_eq_true rfl)) d_VT_fill_130 ⟨Nat.le_refl _, Nat.le_refl _⟩) hD hS (fun u130 H locs hu130 hP hD hS => ?_)
      obtain ⟨u130_0, u130_1, u130_2, u130_3⟩ := u130
      dsimp only at hP hD hu130
      have hP : va_P g.1 gx_cl (cW g ad so sw I n v (va_up (va_up (va_up us111 14 (mt_wd n)) 15 (mt_wd n)) 16 (mt_wd n)) (va_up (va_up (va_up (va_up ct111 14 u130_0) 15 u130_1) 16 u130_2) h u130_3)) H := hP
      have hD : va_D (gx_in (cW g ad so sw I n v us ct)) (cW g ad so sw I n v (va_up (va_up (va_up us111 14 (mt_wd n)) 15 (mt_wd n)) 16 (mt_wd n)) (va_up (va_up (va_up (va_up ct111 14 u130_0) 15 u130_1) 16 u130_2) h u130_3)) := hD
      have hu130 := hu130
      have hfin : ∀ z, mt_el (mt_wd n) ((va_up (va_up (va_up (va_up ct111 14 u130_0) 15 u130_1) 16 u130_2) h u130_3) h) z ↔ mt_V k a b vk va vb n 3 x z := by rw [show (va_up (va_up (va_up (va_up ct111 14 u130_0) 15 u130_1) 16 u130_2) h u130_3) h = u130_3 from (va_up_self _ _ _)]; exact mt_Vp (by omega) hX hY hf8 hu130
      exact gc_retv (u := (va_up (va_up (va_up us111 14 (mt_wd n)) 15 (mt_wd n)) 16 (mt_wd n), va_up (va_up (va_up (va_up ct111 14 u130_0) 15 u130_1) 16 u130_2) h u130_3)) (Wf := fun (u : gUC) => cW g ad so sw I n v u.1 u.2) (post := fun (u : gUC) => (∀ q, ¬ mt_ch 1 h q → u.1 q = us q ∧ u.2 q = ct q) ∧ u.1 h = mt_wd n ∧ ∀ z, mt_el (mt_wd n) (u.2 h) z ↔ mt_V k a b vk va vb n 3 x z) hx hb hr hlk ⟨(fun q hq => by unfold mt_ch at hq; exact ⟨((va_up_ne _ _ (by omega)).trans ((va_up_ne _ _ (by omega)).trans ((va_up_ne _ _ (by omega)).trans (((hfr111 q (by unfold mt_ch; omega)).1.trans ((hfr89 q (by unfold mt_ch; omega)).1.trans (va_up_ne _ _ (by omega)))))))), ((va_up_ne _ _ (by omega)).trans ((va_up_ne _ _ (by omega)).trans ((va_up_ne _ _ (by omega)).trans ((va_up_ne _ _ (by omega)).trans (((hfr111 q (by unfold mt_ch; omega)).2.trans ((hfr89 q (by unfold mt_ch; omega)).2.trans (va_up_ne _ _ (by omega)))))))))⟩), ((va_up_ne _ _ (by omega)).trans ((va_up_ne _ _ (by omega)).trans ((va_up_ne _ _ (by omega)).trans (((hfr111 h (by unfold mt_ch; omega)).1.trans ((hfr89 h (by unfold mt_ch; omega)).1.trans (va_up_self _ _ _))))))), hfin⟩ hP hD hS d_VT_fill_133
    · ---- 17T 47F
      have hvan := hvx.2.2.2.1 hc47
      refine lv_aload_n hx hb d_VT_fill_50 rfl (lv_at hl 3 rfl) ?_
      refine lv_aload_n hx hb d_VT_fill_51 rfl (lv_at hl 0 rfl) ?_
      refine va_get (D := g.1) (own := R_VT) (ref := R_VT) (ci := 3) (v := .ref (ad 10)) (C := R_VT) (T := F_VT) (N := 8) hx hb hts in_VT hown hG.1 hP 8 rfl rfl 1 (by decide) (hts _ wd_121) (fun _ h9 => h9) rfl d_VT_fill_52 ?_
      refine lv_iload_n hx hb d_VT_fill_55 rfl (lv_at hl 2 rfl) ?_
      refine va_iald hx hb hG.1 hP 10 0 rfl rfl (vp_in_nI (by omega) (by decide)) d_VT_fill_56 ?_
      refine mt_ri (y := nI (va x)) (by rw [nI_clamp (by omega)]; exact (hV _ (by omega)).2.1) ?_
      refine lv_aload_n hx hb d_VT_fill_57 rfl (lv_at hl 1 rfl) ?_
      refine gc_cwv (va_runV (own := R_VT) (As := [.int (nI (va x)), .ref (so h)]) (rest := []) ⟨hx, hb, hml, hown, hts⟩ (c_MG_addMembers (l := l) (g := g) (ad := ad) (so := so) (sw := sw) (I := I) (n := n) (v := v) (us := (va_up us h (mt_wd n))) (ct := (va_up ct h f8)) (h := h) (uh := mt_wd n) (Fh := f8) (t := va x) hn ((va_up_ne _ _ (by omega)).trans (hun)) (fun q9 hq9 => mt_R_lt ((hRn.2 q9).mp (by rw [show (va_up us h (mt_wd n)) n = us n from va_up_ne _ _ (by omega), show (va_up ct h f8) n = ct n from va_up_ne _ _ (by omega)] at hq9; exact hq9))) (by omega) (by omega) hh25 (by omega) (va_up_self _ _ _) (va_up_self _ _ _) (mt_cp12 (by omega) hn12) (by omega)) (cwV 2 hts (gx_goodV wd_350 wd_351 wd_352 wd_2 wd_353) rfl rfl rfl (by decide +kernel) ⟨Nat.le_of_ble_eq_true rfl, Nat.le_of_ble_eq_true rfl⟩) (gc_preVW (gc_recv hP hG (ci := 2) rfl (q0 := 0) rfl) hP hG hD) rfl rfl hl.1 rfl (lv_room (Nat.le_of_ble_eq_true rfl)) d_VT_fill_58 ⟨Nat.le_refl _, Nat.le_refl _⟩) hD hS (fun u58 H locs hu58 hP hD hS => ?_)
      rw [bx_uu] at hP hD
      have hP : va_P g.1 gx_cl (cW g ad so sw I n v (va_up us h (mt_wd n)) (va_up ct h u58)) H := hP
      have hD : va_D (gx_in (cW g ad so sw I n v us ct)) (cW g ad so sw I n v (va_up us h (mt_wd n)) (va_up ct h u58)) := hD
      refine lv_goto (tgt := 133) hx hb d_VT_fill_61 (by decide) ?_
      have hfin : ∀ z, mt_el (mt_wd n) ((va_up ct h u58) h) z ↔ mt_V k a b vk va vb n 3 x z := by rw [show (va_up ct h u58) h = u58 from (va_up_self _ _ _)]; exact mt_Vf (S := mt_el (us n) (ct n)) hc47 (fun z => hRn.2 z) hf8 (fun z => by rw [hu58 z, show (va_up us h (mt_wd n)) n = us n from va_up_ne _ _ (by omega), show (va_up ct h f8) n = ct n from va_up_ne _ _ (by omega)])
      exact gc_retv (u := (va_up us h (mt_wd n), va_up ct h u58)) (Wf := fun (u : gUC) => cW g ad so sw I n v u.1 u.2) (post := fun (u : gUC) => (∀ q, ¬ mt_ch 1 h q → u.1 q = us q ∧ u.2 q = ct q) ∧ u.1 h = mt_wd n ∧ ∀ z, mt_el (mt_wd n) (u.2 h) z ↔ mt_V k a b vk va vb n 3 x z) hx hb hr hlk ⟨(fun q hq => by unfold mt_ch at hq; exact ⟨(va_up_ne _ _ (by omega)), (va_up_ne _ _ (by omega))⟩), (va_up_self _ _ _), hfin⟩ hP hD hS d_VT_fill_133
  · ---- 17F
    refine lv_aload_n hx hb d_VT_fill_20 rfl (lv_at hl 1 rfl) ?_
    refine lv_aload_n hx hb d_VT_fill_21 rfl (lv_at hl 3 rfl) ?_
    refine va_getN (D := g.1) (own := R_VT) (ref := R_MG) (ci := 2) (v := .ref (ad 1)) (C := R_MG) (T := F_MG) (N := 6) hx hb hts in_MG hown hG.1 hP 0 rfl rfl 0 (by decide) (va_Nw.use rfl (hG.2.1 _ nw_9)) (fun _ h9 => h9) rfl d_VT_fill_22 ?_
    refine lv_aload_n hx hb d_VT_fill_25 rfl (lv_at hl 0 rfl) ?_
    refine va_get (D := g.1) (own := R_VT) (ref := R_VT) (ci := 3) (v := .ref (ad 10)) (C := R_VT) (T := F_VT) (N := 8) hx hb hts in_VT hown hG.1 hP 8 rfl rfl 1 (by decide) (hts _ wd_121) (fun _ h9 => h9) rfl d_VT_fill_26 ?_
    refine lv_iload_n hx hb d_VT_fill_29 rfl (lv_at hl 2 rfl) ?_
    refine va_iald hx hb hG.1 hP 10 0 rfl rfl (vp_in_nI (by omega) (by decide)) d_VT_fill_30 ?_
    refine mt_ri (y := nI (va x)) (by rw [nI_clamp (by omega)]; exact (hV _ (by omega)).2.1) ?_
    refine vp_callSi (va_runV (own := R_VT) (As := [.int (nI (va x))]) (rest := [.ref (so h)]) ⟨hx, hb, hml, hown, hts⟩ (c_TT_profileOfConstant (l := l) (g := g) (ad := ad) (so := so) (sw := sw) (I := I) (n := n) (v := v) (us := (va_up us h (mt_wd n))) (ct := (va_up ct h f8)) (k := k) (a := a) (b := b) (cc0 := va x) hT hn hw (hvx.2.1 hc17)) (cwV 1 hts (gx_goodV wd_348 wd_182 wd_183 wd_3 wd_184) rfl rfl rfl (by decide +kernel) ⟨Nat.le_of_ble_eq_true rfl, Nat.le_of_ble_eq_true rfl⟩) (gc_preV (gc_recv hP hG (ci := 1) rfl (q0 := 1) rfl) hP hG) rfl rfl hl.1 rfl (lv_room (Nat.le_of_ble_eq_true rfl)) d_VT_fill_31 ⟨Nat.le_refl _, Nat.le_refl _⟩).run (fun r hr31 => ?_)
    subst hr31
    refine gc_caddE (u := mt_wd n) (f := f8) (by omega) (va_up_self _ _ _) (va_up_self _ _ _) (va_runV (own := R_VT) (As := [.int (nI (mt_pf k a b (mt_rc k a (va x)) n))]) (rest := []) ⟨hx, hb, hml, hown, hts⟩ (c_PS_add (l := l) (g := g) (o := so h) (w := sw h) (cp := mt_cp h) (u := mt_wd n) (f := f8) (x := mt_pf k a b (mt_rc k a (va x)) n) (by have := mt_pf_lt k a b (mt_rc k a (va x)) n; omega) (by exact mt_cp12 (by omega) hn12) (mt_cp_le _)) (cwV 1 hts (gx_goodV wd_349 wd_88 wd_89 wd_4 wd_90) rfl rfl rfl (by decide +kernel) ⟨Nat.le_of_ble_eq_true rfl, Nat.le_of_ble_eq_true rfl⟩) (gc_preVW (gc_recv hP hG (ci := 0) rfl (cw_oE (k := h) (u := mt_wd n) (by omega) (va_up_self _ _ _))) (cw_pickE hP (by omega) (va_up_self _ _ _) (va_up_self _ _ _)) hG (cw_pickDE hD (by omega) (va_up_self _ _ _) (va_up_self _ _ _))) rfl rfl hl.1 rfl (lv_room (Nat.le_of_ble_eq_true rfl)) d_VT_fill_34 ⟨Nat.le_refl _, Nat.le_refl _⟩) hP hD hS (fun f34 H locs hf34 hP hD hS => ?_)
    rw [bx_uu] at hP hD
    have hP : va_P g.1 gx_cl (cW g ad so sw I n v (va_up us h (mt_wd n)) (va_up ct h f34)) H := hP
    have hD : va_D (gx_in (cW g ad so sw I n v us ct)) (cW g ad so sw I n v (va_up us h (mt_wd n)) (va_up ct h f34)) := hD
    refine lv_goto (tgt := 133) hx hb d_VT_fill_37 (by decide) ?_
    have hfin : ∀ z, mt_el (mt_wd n) ((va_up ct h f34) h) z ↔ mt_V k a b vk va vb n 3 x z := by rw [show (va_up ct h f34) h = f34 from (va_up_self _ _ _)]; exact mt_Vc hc17 hf8 hf34
    exact gc_retv (u := (va_up us h (mt_wd n), va_up ct h f34)) (Wf := fun (u : gUC) => cW g ad so sw I n v u.1 u.2) (post := fun (u : gUC) => (∀ q, ¬ mt_ch 1 h q → u.1 q = us q ∧ u.2 q = ct q) ∧ u.1 h = mt_wd n ∧ ∀ z, mt_el (mt_wd n) (u.2 h) z ↔ mt_V k a b vk va vb n 3 x z) hx hb hr hlk ⟨(fun q hq => by unfold mt_ch at hq; exact ⟨(va_up_ne _ _ (by omega)), (va_up_ne _ _ (by omega))⟩), (va_up_self _ _ _), hfin⟩ hP hD hS d_VT_fill_133

set_option maxHeartbeats 4000000 in
set_option maxRecDepth 100000 in
theorem c_VT_fill0 {g : gG} {ad so sw : Nat → Nat} {I : Nat → Nat → Int32} {n v : Nat} {us : Nat → Nat} {ct : Nat → Nat → Int64}{k a b : Nat → Nat} {vk va vb vl : Nat → Nat} {x h : Nat} {l : Launch} (hT : mt_TR I n k a b) (hn12 : n ≤ 12) (hw : mt_wf k a b n) (hR : mt_RW us ct n k a b) (hV : mt_VR I v vk va vb vl) (hv20 : v ≤ 20) (hvw : mt_vw n v vk va vb vl) (hxv : x < v) (hvl : vl x ≤ 4) (hh : h = 18 ∨ (19 ≤ h ∧ h < 19) ∨ (22 ≤ h ∧ h < 22)) :
    gc_RV (S := gUC) l y_VT_fill (gx_ws y_VT_fill b_VT_fill 5 none) 7 161 g [.ref (ad 8), .ref (so h), .int (nI x), .ref (ad 0), .int (nI 0)] (cW g ad so sw I n v us ct) (fun (u : gUC) => cW g ad so sw I n v u.1 u.2) (fun (u : gUC) => (∀ q, ¬ mt_ch 0 h q → u.1 q = us q ∧ u.2 q = ct q) ∧ u.1 h = mt_wd n ∧ ∀ z, mt_el (mt_wd n) (u.2 h) z ↔ mt_V k a b vk va vb n 4 x z) := by
  refine gx_body (by decide) (Nat.le_of_ble_eq_true rfl) ?_
  intro p e s m below meth c ls hAt hB hl
  obtain ⟨hx, hb, hml, hown, hts, hr, hlk, hnm⟩ := hAt
  have hown : s.vm.findClass R_VT = some m.cls := hown
  obtain ⟨⟨hP, hG⟩, hD0⟩ := hB
  have hD := gx_D.self hD0
  have hS : va_S (gx_in (cW g ad so sw I n v us ct)) s.heap s.heap [] := va_S.rf
  have hl : lv_has ls 5 [(0, .ref (ad 8)), (1, .ref (so h)), (2, .int (nI x)), (3, .ref (ad 0)), (4, .int (nI 0))] := hl
  have hn : n ≤ 13 := by omega
  have hwd := mt_wd_le hn
  have hRn := hR n (Nat.le_refl n)
  have hun := hRn.1
  have hvx := hvw x hxv
  have hh25 : h < 25 := by omega
  refine lv_aload_n hx hb d_VT_fill_0 rfl (lv_at hl 1 rfl) ?_
  refine lv_aload_n hx hb d_VT_fill_1 rfl (lv_at hl 3 rfl) ?_
  refine va_getN (D := g.1) (own := R_VT) (ref := R_MG) (ci := 2) (v := .ref (ad 1)) (C := R_MG) (T := F_MG) (N := 6) hx hb hts in_MG hown hG.1 hP 0 rfl rfl 0 (by decide) (va_Nw.use rfl (hG.2.1 _ nw_9)) (fun _ h9 => h9) rfl d_VT_fill_2 ?_
  refine va_getN (D := g.1) (own := R_VT) (ref := R_TT) (ci := 1) (v := .int (nI n)) (C := R_TT) (T := F_TT) (N := 6) hx hb hts in_TT hown hG.1 hP 1 rfl rfl 5 (by decide) (va_Nw.use rfl (hG.2.1 _ nw_5)) (fun _ h9 => h9) rfl d_VT_fill_5 ?_
  refine gc_cresE (u := us h) (f := ct h) (w1 := mt_wd n) (by omega) rfl rfl (va_runV (own := R_VT) (As := [.int (nI n)]) (rest := []) ⟨hx, hb, hml, hown, hts⟩ (c_PS_restart (l := l) (g := g) (o := so h) (w := sw h) (cp := mt_cp h) (u := us h) (f := ct h) (b := n) (by omega) (by exact mt_cp12 (by omega) hn12) (mt_cp_le _)) (cwV 1 hts (gx_goodV wd_347 wd_81 wd_82 wd_4 wd_83) rfl rfl rfl (by decide +kernel) ⟨Nat.le_of_ble_eq_true rfl, Nat.le_of_ble_eq_true rfl⟩) (gc_preVW (gc_recv hP hG (ci := 0) rfl (cw_oE (k := h) (u := us h) (by omega) rfl)) (cw_pickE hP (by omega) rfl rfl) hG (cw_pickDE hD (by omega) rfl rfl)) rfl rfl hl.1 rfl (lv_room (Nat.le_of_ble_eq_true rfl)) d_VT_fill_8 ⟨Nat.le_refl _, Nat.le_refl _⟩) hP hD hS (fun f8 H locs hf8 hP hD hS => ?_)
  have hP : va_P g.1 gx_cl (cW g ad so sw I n v (va_up us h (mt_wd n)) (va_up ct h f8)) H := hP
  have hD : va_D (gx_in (cW g ad so sw I n v us ct)) (cW g ad so sw I n v (va_up us h (mt_wd n)) (va_up ct h f8)) := hD
  refine lv_aload_n hx hb d_VT_fill_11 rfl (lv_at hl 0 rfl) ?_
  refine va_get (D := g.1) (own := R_VT) (ref := R_VT) (ci := 3) (v := .ref (ad 9)) (C := R_VT) (T := F_VT) (N := 8) hx hb hts in_VT hown hG.1 hP 8 rfl rfl 0 (by decide) (hts _ wd_120) (fun _ h9 => h9) rfl d_VT_fill_12 ?_
  refine lv_iload_n hx hb d_VT_fill_15 rfl (lv_at hl 2 rfl) ?_
  refine va_iald hx hb hG.1 hP 9 0 rfl rfl (vp_in_nI (by omega) (by decide)) d_VT_fill_16 ?_
  refine mt_ri (y := nI (vk x)) (by rw [nI_clamp (by omega)]; exact (hV _ (by omega)).1) ?_
  refine lv_if_ne (tgt := 40) hx hb d_VT_fill_17 (by decide) (mt_ne (b := 0) (by omega) (by decide) fun hc17 => ?_) (mt_eq (b := 0) (by omega) (by decide) fun hc17 => ?_)
  · ---- 17T
    refine lv_aload_n hx hb d_VT_fill_40 rfl (lv_at hl 0 rfl) ?_
    refine va_get (D := g.1) (own := R_VT) (ref := R_VT) (ci := 3) (v := .ref (ad 9)) (C := R_VT) (T := F_VT) (N := 8) hx hb hts in_VT hown hG.1 hP 8 rfl rfl 0 (by decide) (hts _ wd_120) (fun _ h9 => h9) rfl d_VT_fill_41 ?_
    refine lv_iload_n hx hb d_VT_fill_44 rfl (lv_at hl 2 rfl) ?_
    refine va_iald hx hb hG.1 hP 9 0 rfl rfl (vp_in_nI (by omega) (by decide)) d_VT_fill_45 ?_
    refine mt_ri (y := nI (vk x)) (by rw [nI_clamp (by omega)]; exact (hV _ (by omega)).1) ?_
    refine lv_iconst (v := nI 2) hx hb d_VT_fill_46 (by decide) ?_
    refine lv_icmp_ne (tgt := 64) hx hb d_VT_fill_47 (by decide) (mt_ne (by omega) (by omega) fun hc47 => ?_) (mt_eq (by omega) (by omega) fun hc47 => ?_)
    · ---- 17T 47T
      refine lv_iload hx hb d_VT_fill_64 (lv_at hl 4 rfl) ?_
      refine lv_iconst (v := nI 3) hx hb d_VT_fill_66 (by decide) ?_
      refine lv_icmp_ge (tgt := 133) hx hb d_VT_fill_67 (by decide) (fun h9 => absurd h9 (by decide)) (fun _ => ?_)
      have hvp := hvx.2.2.1 (by omega)
      have hvl1 := (hvw (va x) (by omega)).2.2.2.2
      have hvl2 := (hvw (vb x) (by omega)).2.2.2.2
      refine lv_aload_n hx hb d_VT_fill_70 rfl (lv_at hl 0 rfl) ?_
      refine lv_aload_n hx hb d_VT_fill_71 rfl (lv_at hl 0 rfl) ?_
      refine va_get (D := g.1) (own := R_VT) (ref := R_VT) (ci := 3) (v := .ref (ad 13)) (C := R_VT) (T := F_VT) (N := 8) hx hb hts in_VT hown hG.1 hP 8 rfl rfl 6 (by decide) (hts _ wd_128) (fun _ h9 => h9) rfl d_VT_fill_72 ?_
      refine lv_iload hx hb d_VT_fill_75 (lv_at hl 4 rfl) ?_
      refine va_aldq hx hb hG.1 hP 13 3 rfl rfl (vp_in_nI (by omega) (by decide)) d_VT_fill_77 ?_
      refine mt_rv (w := .ref (so (19 + 0))) (by rw [nI_clamp (by omega)]; rfl) ?_
      refine lv_aload_n hx hb d_VT_fill_78 rfl (lv_at hl 0 rfl) ?_
      refine va_get (D := g.1) (own := R_VT) (ref := R_VT) (ci := 3) (v := .ref (ad 10)) (C := R_VT) (T := F_VT) (N := 8) hx hb hts in_VT hown hG.1 hP 8 rfl rfl 1 (by decide) (hts _ wd_121) (fun _ h9 => h9) rfl d_VT_fill_79 ?_
      refine lv_iload_n hx hb d_VT_fill_82 rfl (lv_at hl 2 rfl) ?_
      refine va_iald hx hb hG.1 hP 10 0 rfl rfl (vp_in_nI (by omega) (by decide)) d_VT_fill_83 ?_
      refine mt_ri (y := nI (va x)) (by rw [nI_clamp (by omega)]; exact (hV _ (by omega)).2.1) ?_
      refine lv_aload_n hx hb d_VT_fill_84 rfl (lv_at hl 3 rfl) ?_
      refine lv_iload hx hb d_VT_fill_85 (lv_at hl 4 rfl) ?_
      refine lv_iconst (v := nI 1) hx hb d_VT_fill_87 (by decide) ?_
      refine lv_iadd hx hb d_VT_fill_88 ?_
      refine mt_ri (y := nI 1) (nI_add _ _) ?_
      refine gc_cwv (va_runV (own := R_VT) (As := [.ref (so 19), .int (nI (va x)), .ref (ad 0), .int (nI 1)]) (rest := []) ⟨hx, hb, hml, hown, hts⟩ (c_VT_fill1 (l := l) (g := g) (ad := ad) (so := so) (sw := sw) (I := I) (n := n) (v := v) (us := (va_up us h (mt_wd n))) (ct := (va_up ct h f8)) (k := k) (a := a) (b := b) (vk := vk) (va := va) (vb := vb) (vl := vl) (x := va x) (h := 19) hT hn12 hw (mt_RW_fr hR (fun q9 hq9 => ⟨(va_up_ne _ _ (by omega)), (va_up_ne _ _ (by omega))⟩)) hV hv20 hvw (by omega) (by omega) (by omega)) (cwV 4 hts (gx_goodV wd_343 wd_345 ws_11 wd_6 wd_346) rfl rfl rfl (by decide +kernel) ⟨Nat.le_of_ble_eq_true rfl, Nat.le_of_ble_eq_true rfl⟩) (gc_preVW (gc_recv hP hG (ci := 3) rfl (q0 := 8) rfl) hP hG hD) rfl rfl hl.1 rfl (lv_room (Nat.le_of_ble_eq_true rfl)) d_VT_fill_89 ⟨Nat.le_refl _, Nat.le_refl _⟩) hD hS (fun u89 H locs hu89 hP hD hS => ?_)
      obtain ⟨us89, ct89⟩ := u89
      dsimp only at hP hD hu89
      obtain ⟨hfr89, hus89, hct89⟩ := hu89
      have hP : va_P g.1 gx_cl (cW g ad so sw I n v us89 ct89) H := hP
      have hD : va_D (gx_in (cW g ad so sw I n v us ct)) (cW g ad so sw I n v us89 ct89) := hD
      refine lv_aload_n hx hb d_VT_fill_92 rfl (lv_at hl 0 rfl) ?_
      refine lv_aload_n hx hb d_VT_fill_93 rfl (lv_at hl 0 rfl) ?_
      refine va_get (D := g.1) (own := R_VT) (ref := R_VT) (ci := 3) (v := .ref (ad 14)) (C := R_VT) (T := F_VT) (N := 8) hx hb hts in_VT hown hG.1 hP 8 rfl rfl 7 (by decide) (hts _ wd_129) (fun _ h9 => h9) rfl d_VT_fill_94 ?_
      refine lv_iload hx hb d_VT_fill_97 (lv_at hl 4 rfl) ?_
      refine va_aldq hx hb hG.1 hP 14 3 rfl rfl (vp_in_nI (by omega) (by decide)) d_VT_fill_99 ?_
      refine mt_rv (w := .ref (so (22 + 0))) (by rw [nI_clamp (by omega)]; rfl) ?_
      refine lv_aload_n hx hb d_VT_fill_100 rfl (lv_at hl 0 rfl) ?_
      refine va_get (D := g.1) (own := R_VT) (ref := R_VT) (ci := 3) (v := .ref (ad 11)) (C := R_VT) (T := F_VT) (N := 8) hx hb hts in_VT hown hG.1 hP 8 rfl rfl 2 (by decide) (hts _ wd_122) (fun _ h9 => h9) rfl d_VT_fill_101 ?_
      refine lv_iload_n hx hb d_VT_fill_104 rfl (lv_at hl 2 rfl) ?_
      refine va_iald hx hb hG.1 hP 11 0 rfl rfl (vp_in_nI (by omega) (by decide)) d_VT_fill_105 ?_
      refine mt_ri (y := nI (vb x)) (by rw [nI_clamp (by omega)]; exact (hV _ (by omega)).2.2.2 (by omega)) ?_
      refine lv_aload_n hx hb d_VT_fill_106 rfl (lv_at hl 3 rfl) ?_
      refine lv_iload hx hb d_VT_fill_107 (lv_at hl 4 rfl) ?_
      refine lv_iconst (v := nI 1) hx hb d_VT_fill_109 (by decide) ?_
      refine lv_iadd hx hb d_VT_fill_110 ?_
      refine mt_ri (y := nI 1) (nI_add _ _) ?_
      refine gc_cwv (va_runV (own := R_VT) (As := [.ref (so 22), .int (nI (vb x)), .ref (ad 0), .int (nI 1)]) (rest := []) ⟨hx, hb, hml, hown, hts⟩ (c_VT_fill1 (l := l) (g := g) (ad := ad) (so := so) (sw := sw) (I := I) (n := n) (v := v) (us := us89) (ct := ct89) (k := k) (a := a) (b := b) (vk := vk) (va := va) (vb := vb) (vl := vl) (x := vb x) (h := 22) hT hn12 hw (mt_RW_fr hR (fun q9 hq9 => ⟨((hfr89 q9 (by unfold mt_ch; omega)).1.trans (va_up_ne _ _ (by omega))), ((hfr89 q9 (by unfold mt_ch; omega)).2.trans (va_up_ne _ _ (by omega)))⟩)) hV hv20 hvw (by omega) (by omega) (by omega)) (cwV 4 hts (gx_goodV wd_343 wd_345 ws_11 wd_6 wd_346) rfl rfl rfl (by decide +kernel) ⟨Nat.le_of_ble_eq_true rfl, Nat.le_of_ble_eq_true rfl⟩) (gc_preVW (gc_recv hP hG (ci := 3) rfl (q0 := 8) rfl) hP hG hD) rfl rfl hl.1 rfl (lv_room (Nat.le_of_ble_eq_true rfl)) d_VT_fill_111 ⟨Nat.le_refl _, Nat.le_refl _⟩) hD hS (fun u111 H locs hu111 hP hD hS => ?_)
      obtain ⟨us111, ct111⟩ := u111
      dsimp only at hP hD hu111
      obtain ⟨hfr111, hus111, hct111⟩ := hu111
      have hP : va_P g.1 gx_cl (cW g ad so sw I n v us111 ct111) H := hP
      have hD : va_D (gx_in (cW g ad so sw I n v us ct)) (cW g ad so sw I n v us111 ct111) := hD
      have hX : ∀ z, mt_el (mt_wd n) (ct89 19) z ↔ mt_V k a b vk va vb n 3 (va x) z := hct89
      have hY : ∀ z, mt_el (mt_wd n) (ct111 22) z ↔ mt_V k a b vk va vb n 3 (vb x) z := hct111
      refine lv_aload_n hx hb d_VT_fill_114 rfl (lv_at hl 3 rfl) ?_
      refine lv_aload_n hx hb d_VT_fill_115 rfl (lv_at hl 0 rfl) ?_
      refine va_get (D := g.1) (own := R_VT) (ref := R_VT) (ci := 3) (v := .ref (ad 13)) (C := R_VT) (T := F_VT) (N := 8) hx hb hts in_VT hown hG.1 hP 8 rfl rfl 6 (by decide) (hts _ wd_128) (fun _ h9 => h9) rfl d_VT_fill_116 ?_
      refine lv_iload hx hb d_VT_fill_119 (lv_at hl 4 rfl) ?_
      refine va_aldq hx hb hG.1 hP 13 3 rfl rfl (vp_in_nI (by omega) (by decide)) d_VT_fill_121 ?_
      refine mt_rv (w := .ref (so (19 + 0))) (by rw [nI_clamp (by omega)]; rfl) ?_
      refine lv_aload_n hx hb d_VT_fill_122 rfl (lv_at hl 0 rfl) ?_
      refine va_get (D := g.1) (own := R_VT) (ref := R_VT) (ci := 3) (v := .ref (ad 14)) (C := R_VT) (T := F_VT) (N := 8) hx hb hts in_VT hown hG.1 hP 8 rfl rfl 7 (by decide) (hts _ wd_129) (fun _ h9 => h9) rfl d_VT_fill_123 ?_
      refine lv_iload hx hb d_VT_fill_126 (lv_at hl 4 rfl) ?_
      refine va_aldq hx hb hG.1 hP 14 3 rfl rfl (vp_in_nI (by omega) (by decide)) d_VT_fill_128 ?_
      refine mt_rv (w := .ref (so (22 + 0))) (by rw [nI_clamp (by omega)]; rfl) ?_
      refine lv_aload_n hx hb d_VT_fill_129 rfl (lv_at hl 1 rfl) ?_
      refine gc_cwv (va_runV (own := R_VT) (As := [.ref (so 19), .ref (so 22), .ref (so h)]) (rest := []) ⟨hx, hb, hml, hown, hts⟩ (c_MG_addPairs (l := l) (g := g) (ad := ad) (so := so) (sw := sw) (I := I) (n := n) (v := v) (us := us111) (ct := ct111) (k := k) (a := a) (b := b) (i := 19) (ui := mt_wd n) (Fi := ct89 19) (j := 22) (uj := mt_wd n) (Fj := ct111 22) (h := h) (uh := mt_wd n) (Fh := f8) hT hn hw (by decide) (by decide) (by decide) (by decide) (by omega) (by omega) ((hfr111 19 (by unfold mt_ch; omega)).1.trans hus89) ((hfr111 19 (by unfold mt_ch; omega)).2.trans rfl) (mt_cp12 (by decide) hn12) hus111 rfl (mt_cp12 (by decide) hn12) hh25 (by omega) ((hfr111 h (by unfold mt_ch; omega)).1.trans ((hfr89 h (by unfold mt_ch; omega)).1.trans (va_up_self _ _ _))) ((hfr111 h (by unfold mt_ch; omega)).2.trans ((hfr89 h (by unfold mt_ch; omega)).2.trans (va_up_self _ _ _))) (mt_cp12 (by omega) hn12) (by omega)) (cwV 3 hts (gx_goodV wd_355 wd_197 wd_198 wd_2 wd_199) rfl rfl rfl (by decide +kernel) ⟨Nat.le_of_ble_eq_true rfl, Nat.le_of_ble_eq_true rfl⟩) (gc_preVW (gc_recv hP hG (ci := 2) rfl (q0 := 0) rfl) hP hG hD) rfl rfl hl.1 rfl (lv_room (Nat.le_of_ble_eq_true rfl)) d_VT_fill_130 ⟨Nat.le_refl _, Nat.le_refl _⟩) hD hS (fun u130 H locs hu130 hP hD hS => ?_)
      obtain ⟨u130_0, u130_1, u130_2, u130_3⟩ := u130
      dsimp only at hP hD hu130
      have hP : va_P g.1 gx_cl (cW g ad so sw I n v (va_up (va_up (va_up us111 14 (mt_wd n)) 15 (mt_wd n)) 16 (mt_wd n)) (va_up (va_up (va_up (va_up ct111 14 u130_0) 15 u130_1) 16 u130_2) h u130_3)) H := hP
      have hD : va_D (gx_in (cW g ad so sw I n v us ct)) (cW g ad so sw I n v (va_up (va_up (va_up us111 14 (mt_wd n)) 15 (mt_wd n)) 16 (mt_wd n)) (va_up (va_up (va_up (va_up ct111 14 u130_0) 15 u130_1) 16 u130_2) h u130_3)) := hD
      have hu130 := hu130
      have hfin : ∀ z, mt_el (mt_wd n) ((va_up (va_up (va_up (va_up ct111 14 u130_0) 15 u130_1) 16 u130_2) h u130_3) h) z ↔ mt_V k a b vk va vb n 4 x z := by rw [show (va_up (va_up (va_up (va_up ct111 14 u130_0) 15 u130_1) 16 u130_2) h u130_3) h = u130_3 from (va_up_self _ _ _)]; exact mt_Vp (by omega) hX hY hf8 hu130
      exact gc_retv (u := (va_up (va_up (va_up us111 14 (mt_wd n)) 15 (mt_wd n)) 16 (mt_wd n), va_up (va_up (va_up (va_up ct111 14 u130_0) 15 u130_1) 16 u130_2) h u130_3)) (Wf := fun (u : gUC) => cW g ad so sw I n v u.1 u.2) (post := fun (u : gUC) => (∀ q, ¬ mt_ch 0 h q → u.1 q = us q ∧ u.2 q = ct q) ∧ u.1 h = mt_wd n ∧ ∀ z, mt_el (mt_wd n) (u.2 h) z ↔ mt_V k a b vk va vb n 4 x z) hx hb hr hlk ⟨(fun q hq => by unfold mt_ch at hq; exact ⟨((va_up_ne _ _ (by omega)).trans ((va_up_ne _ _ (by omega)).trans ((va_up_ne _ _ (by omega)).trans (((hfr111 q (by unfold mt_ch; omega)).1.trans ((hfr89 q (by unfold mt_ch; omega)).1.trans (va_up_ne _ _ (by omega)))))))), ((va_up_ne _ _ (by omega)).trans ((va_up_ne _ _ (by omega)).trans ((va_up_ne _ _ (by omega)).trans ((va_up_ne _ _ (by omega)).trans (((hfr111 q (by unfold mt_ch; omega)).2.trans ((hfr89 q (by unfold mt_ch; omega)).2.trans (va_up_ne _ _ (by omega)))))))))⟩), ((va_up_ne _ _ (by omega)).trans ((va_up_ne _ _ (by omega)).trans ((va_up_ne _ _ (by omega)).trans (((hfr111 h (by unfold mt_ch; omega)).1.trans ((hfr89 h (by unfold mt_ch; omega)).1.trans (va_up_self _ _ _))))))), hfin⟩ hP hD hS d_VT_fill_133
    · ---- 17T 47F
      have hvan := hvx.2.2.2.1 hc47
      refine lv_aload_n hx hb d_VT_fill_50 rfl (lv_at hl 3 rfl) ?_
      refine lv_aload_n hx hb d_VT_fill_51 rfl (lv_at hl 0 rfl) ?_
      refine va_get (D := g.1) (own := R_VT) (ref := R_VT) (ci := 3) (v := .ref (ad 10)) (C := R_VT) (T := F_VT) (N := 8) hx hb hts in_VT hown hG.1 hP 8 rfl rfl 1 (by decide) (hts _ wd_121) (fun _ h9 => h9) rfl d_VT_fill_52 ?_
      refine lv_iload_n hx hb d_VT_fill_55 rfl (lv_at hl 2 rfl) ?_
      refine va_iald hx hb hG.1 hP 10 0 rfl rfl (vp_in_nI (by omega) (by decide)) d_VT_fill_56 ?_
      refine mt_ri (y := nI (va x)) (by rw [nI_clamp (by omega)]; exact (hV _ (by omega)).2.1) ?_
      refine lv_aload_n hx hb d_VT_fill_57 rfl (lv_at hl 1 rfl) ?_
      refine gc_cwv (va_runV (own := R_VT) (As := [.int (nI (va x)), .ref (so h)]) (rest := []) ⟨hx, hb, hml, hown, hts⟩ (c_MG_addMembers (l := l) (g := g) (ad := ad) (so := so) (sw := sw) (I := I) (n := n) (v := v) (us := (va_up us h (mt_wd n))) (ct := (va_up ct h f8)) (h := h) (uh := mt_wd n) (Fh := f8) (t := va x) hn ((va_up_ne _ _ (by omega)).trans (hun)) (fun q9 hq9 => mt_R_lt ((hRn.2 q9).mp (by rw [show (va_up us h (mt_wd n)) n = us n from va_up_ne _ _ (by omega), show (va_up ct h f8) n = ct n from va_up_ne _ _ (by omega)] at hq9; exact hq9))) (by omega) (by omega) hh25 (by omega) (va_up_self _ _ _) (va_up_self _ _ _) (mt_cp12 (by omega) hn12) (by omega)) (cwV 2 hts (gx_goodV wd_350 wd_351 wd_352 wd_2 wd_353) rfl rfl rfl (by decide +kernel) ⟨Nat.le_of_ble_eq_true rfl, Nat.le_of_ble_eq_true rfl⟩) (gc_preVW (gc_recv hP hG (ci := 2) rfl (q0 := 0) rfl) hP hG hD) rfl rfl hl.1 rfl (lv_room (Nat.le_of_ble_eq_true rfl)) d_VT_fill_58 ⟨Nat.le_refl _, Nat.le_refl _⟩) hD hS (fun u58 H locs hu58 hP hD hS => ?_)
      rw [bx_uu] at hP hD
      have hP : va_P g.1 gx_cl (cW g ad so sw I n v (va_up us h (mt_wd n)) (va_up ct h u58)) H := hP
      have hD : va_D (gx_in (cW g ad so sw I n v us ct)) (cW g ad so sw I n v (va_up us h (mt_wd n)) (va_up ct h u58)) := hD
      refine lv_goto (tgt := 133) hx hb d_VT_fill_61 (by decide) ?_
      have hfin : ∀ z, mt_el (mt_wd n) ((va_up ct h u58) h) z ↔ mt_V k a b vk va vb n 4 x z := by rw [show (va_up ct h u58) h = u58 from (va_up_self _ _ _)]; exact mt_Vf (S := mt_el (us n) (ct n)) hc47 (fun z => hRn.2 z) hf8 (fun z => by rw [hu58 z, show (va_up us h (mt_wd n)) n = us n from va_up_ne _ _ (by omega), show (va_up ct h f8) n = ct n from va_up_ne _ _ (by omega)])
      exact gc_retv (u := (va_up us h (mt_wd n), va_up ct h u58)) (Wf := fun (u : gUC) => cW g ad so sw I n v u.1 u.2) (post := fun (u : gUC) => (∀ q, ¬ mt_ch 0 h q → u.1 q = us q ∧ u.2 q = ct q) ∧ u.1 h = mt_wd n ∧ ∀ z, mt_el (mt_wd n) (u.2 h) z ↔ mt_V k a b vk va vb n 4 x z) hx hb hr hlk ⟨(fun q hq => by unfold mt_ch at hq; exact ⟨(va_up_ne _ _ (by omega)), (va_up_ne _ _ (by omega))⟩), (va_up_self _ _ _), hfin⟩ hP hD hS d_VT_fill_133
  · ---- 17F
    refine lv_aload_n hx hb d_VT_fill_20 rfl (lv_at hl 1 rfl) ?_
    refine lv_aload_n hx hb d_VT_fill_21 rfl (lv_at hl 3 rfl) ?_
    refine va_getN (D := g.1) (own := R_VT) (ref := R_MG) (ci := 2) (v := .ref (ad 1)) (C := R_MG) (T := F_MG) (N := 6) hx hb hts in_MG hown hG.1 hP 0 rfl rfl 0 (by decide) (va_Nw.use rfl (hG.2.1 _ nw_9)) (fun _ h9 => h9) rfl d_VT_fill_22 ?_
    refine lv_aload_n hx hb d_VT_fill_25 rfl (lv_at hl 0 rfl) ?_
    refine va_get (D := g.1) (own := R_VT) (ref := R_VT) (ci := 3) (v := .ref (ad 10)) (C := R_VT) (T := F_VT) (N := 8) hx hb hts in_VT hown hG.1 hP 8 rfl rfl 1 (by decide) (hts _ wd_121) (fun _ h9 => h9) rfl d_VT_fill_26 ?_
    refine lv_iload_n hx hb d_VT_fill_29 rfl (lv_at hl 2 rfl) ?_
    refine va_iald hx hb hG.1 hP 10 0 rfl rfl (vp_in_nI (by omega) (by decide)) d_VT_fill_30 ?_
    refine mt_ri (y := nI (va x)) (by rw [nI_clamp (by omega)]; exact (hV _ (by omega)).2.1) ?_
    refine vp_callSi (va_runV (own := R_VT) (As := [.int (nI (va x))]) (rest := [.ref (so h)]) ⟨hx, hb, hml, hown, hts⟩ (c_TT_profileOfConstant (l := l) (g := g) (ad := ad) (so := so) (sw := sw) (I := I) (n := n) (v := v) (us := (va_up us h (mt_wd n))) (ct := (va_up ct h f8)) (k := k) (a := a) (b := b) (cc0 := va x) hT hn hw (hvx.2.1 hc17)) (cwV 1 hts (gx_goodV wd_348 wd_182 wd_183 wd_3 wd_184) rfl rfl rfl (by decide +kernel) ⟨Nat.le_of_ble_eq_true rfl, Nat.le_of_ble_eq_true rfl⟩) (gc_preV (gc_recv hP hG (ci := 1) rfl (q0 := 1) rfl) hP hG) rfl rfl hl.1 rfl (lv_room (Nat.le_of_ble_eq_true rfl)) d_VT_fill_31 ⟨Nat.le_refl _, Nat.le_refl _⟩).run (fun r hr31 => ?_)
    subst hr31
    refine gc_caddE (u := mt_wd n) (f := f8) (by omega) (va_up_self _ _ _) (va_up_self _ _ _) (va_runV (own := R_VT) (As := [.int (nI (mt_pf k a b (mt_rc k a (va x)) n))]) (rest := []) ⟨hx, hb, hml, hown, hts⟩ (c_PS_add (l := l) (g := g) (o := so h) (w := sw h) (cp := mt_cp h) (u := mt_wd n) (f := f8) (x := mt_pf k a b (mt_rc k a (va x)) n) (by have := mt_pf_lt k a b (mt_rc k a (va x)) n; omega) (by exact mt_cp12 (by omega) hn12) (mt_cp_le _)) (cwV 1 hts (gx_goodV wd_349 wd_88 wd_89 wd_4 wd_90) rfl rfl rfl (by decide +kernel) ⟨Nat.le_of_ble_eq_true rfl, Nat.le_of_ble_eq_true rfl⟩) (gc_preVW (gc_recv hP hG (ci := 0) rfl (cw_oE (k := h) (u := mt_wd n) (by omega) (va_up_self _ _ _))) (cw_pickE hP (by omega) (va_up_self _ _ _) (va_up_self _ _ _)) hG (cw_pickDE hD (by omega) (va_up_self _ _ _) (va_up_self _ _ _))) rfl rfl hl.1 rfl (lv_room (Nat.le_of_ble_eq_true rfl)) d_VT_fill_34 ⟨Nat.le_refl _, Nat.le_refl _⟩) hP hD hS (fun f34 H locs hf34 hP hD hS => ?_)
    rw [bx_uu] at hP hD
    have hP : va_P g.1 gx_cl (cW g ad so sw I n v (va_up us h (mt_wd n)) (va_up ct h f34)) H := hP
    have hD : va_D (gx_in (cW g ad so sw I n v us ct)) (cW g ad so sw I n v (va_up us h (mt_wd n)) (va_up ct h f34)) := hD
    refine lv_goto (tgt := 133) hx hb d_VT_fill_37 (by decide) ?_
    have hfin : ∀ z, mt_el (mt_wd n) ((va_up ct h f34) h) z ↔ mt_V k a b vk va vb n 4 x z := by rw [show (va_up ct h f34) h = f34 from (va_up_self _ _ _)]; exact mt_Vc hc17 hf8 hf34
    exact gc_retv (u := (va_up us h (mt_wd n), va_up ct h f34)) (Wf := fun (u : gUC) => cW g ad so sw I n v u.1 u.2) (post := fun (u : gUC) => (∀ q, ¬ mt_ch 0 h q → u.1 q = us q ∧ u.2 q = ct q) ∧ u.1 h = mt_wd n ∧ ∀ z, mt_el (mt_wd n) (u.2 h) z ↔ mt_V k a b vk va vb n 4 x z) hx hb hr hlk ⟨(fun q hq => by unfold mt_ch at hq; exact ⟨(va_up_ne _ _ (by omega)), (va_up_ne _ _ (by omega))⟩), (va_up_self _ _ _), hfin⟩ hP hD hS d_VT_fill_133
