set_option maxHeartbeats 4000000 in
set_option maxRecDepth 100000 in
theorem c_MT_holds {g : gG} {pp t : Nat} {l : Launch} (hp : pp < 2 ^ 31) (ht : t < 32) :
    gc_RO l y_MT_holds (gx_ws y_MT_holds b_MT_holds 2 (some .boolean)) 0 0 g [.int (nI pp), .int (nI t)] (([] : va_W)) (fun r => r = mt_b (Nat.testBit pp t)) := by
  refine gx_body (by decide) (Nat.le_of_ble_eq_true rfl) ?_
  intro p e s m below meth c ls hAt hB hl
  obtain ⟨hx, hb, hml, hown, hts, hr, hlk, hnm⟩ := hAt
  have hown : s.vm.findClass R_MT = some m.cls := hown
  obtain ⟨hP, hG⟩ := hB
  have hl : lv_has ls 2 [(0, .int (nI pp)), (1, .int (nI t))] := hl
  refine lv_iload_n hx hb d_MT_holds_0 rfl (lv_at hl 0 rfl) ?_
  refine lv_iload_n hx hb d_MT_holds_1 rfl (lv_at hl 1 rfl) ?_
  refine lv_ishr hx hb d_MT_holds_2 ?_
  refine lv_iconst (v := nI 1) hx hb d_MT_holds_3 (by decide) ?_
  refine lv_iand hx hb d_MT_holds_4 ?_
  refine mt_ri (y := mt_b (Nat.testBit pp t)) (mt_bit1 (by omega) (by omega)) ?_
  refine lv_if_eq (tgt := 12) hx hb d_MT_holds_5 (by decide) (mt_z fun hc5 => ?_) (mt_nz fun hc5 => ?_)
  · ---- 5T
    refine lv_iconst (v := nI 0) hx hb d_MT_holds_12 (by decide) ?_
    exact gc_retz (v := false) (post := fun r => r = mt_b (Nat.testBit pp t)) hx hb hr hlk (by rw [hc5]) d_MT_holds_13
  · ---- 5F
    refine lv_iconst (v := nI 1) hx hb d_MT_holds_8 (by decide) ?_
    refine lv_goto (tgt := 13) hx hb d_MT_holds_9 (by decide) ?_
    exact gc_retz (v := true) (post := fun r => r = mt_b (Nat.testBit pp t)) hx hb hr hlk (by rw [hc5]) d_MT_holds_13

set_option maxHeartbeats 4000000 in
set_option maxRecDepth 100000 in
theorem c_TT_depthOf {g : gG} {ad so sw : Nat → Nat} {I : Nat → Nat → Int32} {n v : Nat} {us : Nat → Nat} {ct : Nat → Nat → Int64} {dp : Nat → Nat} {fc : Nat → Bool} {kk x y : Nat} {l : Launch} (hE : mt_TE I n dp fc) (hn : n ≤ 13) (hdp : ∀ t, t < n → dp t ≤ 5) (hk6 : kk ≤ 6) (hxy : kk ≠ 0 → kk ≠ 6 → x < n ∧ y < n) :
    gc_RO l y_TT_depthOf (gx_ws y_TT_depthOf b_TT_depthOf 4 (some .int)) 1 21 g [.ref (ad 1), .int (nI kk), .int (nI x), .int (nI y)] (cW g ad so sw I n v us ct) (fun r => r = nI (mt_dd kk (dp x) (dp y))) := by
  refine gx_body (by decide) (Nat.le_of_ble_eq_true rfl) ?_
  intro p e s m below meth c ls hAt hB hl
  obtain ⟨hx, hb, hml, hown, hts, hr, hlk, hnm⟩ := hAt
  have hown : s.vm.findClass R_TT = some m.cls := hown
  obtain ⟨hP, hG⟩ := hB
  have hl : lv_has ls 4 [(0, .ref (ad 1)), (1, .int (nI kk)), (2, .int (nI x)), (3, .int (nI y))] := hl
  refine lv_iload_n hx hb d_TT_depthOf_0 rfl (lv_at hl 1 rfl) ?_
  have hsw1 : kk = 0 ∨ kk = 1 ∨ kk = 2 ∨ kk = 3 ∨ kk = 4 ∨ kk = 5 ∨ kk = 6 := by omega
  rcases hsw1 with hs1 | hs1 | hs1 | hs1 | hs1 | hs1 | hs1
  · ---- 1=0
    refine mt_ri (y := nI 0) (by rw [hs1]) ?_
    refine lv_tableIn (off := 43) (tgt := 44) hx hb d_TT_depthOf_1 (by decide) (by decide) (by decide) (by decide) ?_
    refine lv_iconst (v := nI 0) hx hb d_TT_depthOf_44 (by decide) ?_
    exact gc_reti (post := fun r => r = nI (mt_dd kk (dp x) (dp y))) hx hb hr hlk (by rw [hs1]; rfl) d_TT_depthOf_45
  · ---- 1=1
    refine mt_ri (y := nI 1) (by rw [hs1]) ?_
    refine lv_tableIn (off := 45) (tgt := 46) hx hb d_TT_depthOf_1 (by decide) (by decide) (by decide) (by decide) ?_
    have hxy1 := hxy (by omega) (by omega)
    have hdx := hdp x hxy1.1
    have hdy := hdp y hxy1.2
    refine lv_iconst (v := nI 1) hx hb d_TT_depthOf_46 (by decide) ?_
    refine lv_aload_n hx hb d_TT_depthOf_47 rfl (lv_at hl 0 rfl) ?_
    refine va_get (D := g.1) (own := R_TT) (ref := R_TT) (ci := 1) (v := .ref (ad 5)) (C := R_TT) (T := F_TT) (N := 6) hx hb hts in_TT hown hG.1 hP 1 rfl rfl 3 (by decide) (hts _ wd_35) (fun _ h9 => h9) rfl d_TT_depthOf_48 ?_
    refine lv_iload_n hx hb d_TT_depthOf_51 rfl (lv_at hl 2 rfl) ?_
    refine va_iald hx hb hG.1 hP 5 0 rfl rfl (vp_in_nI (by omega) (by decide)) d_TT_depthOf_52 ?_
    refine mt_ri (y := nI (dp x)) (by rw [nI_clamp (by omega)]; exact (hE _ (by omega)).1) ?_
    refine lv_aload_n hx hb d_TT_depthOf_53 rfl (lv_at hl 0 rfl) ?_
    refine va_get (D := g.1) (own := R_TT) (ref := R_TT) (ci := 1) (v := .ref (ad 5)) (C := R_TT) (T := F_TT) (N := 6) hx hb hts in_TT hown hG.1 hP 1 rfl rfl 3 (by decide) (hts _ wd_35) (fun _ h9 => h9) rfl d_TT_depthOf_54 ?_
    refine lv_iload_n hx hb d_TT_depthOf_57 rfl (lv_at hl 3 rfl) ?_
    refine va_iald hx hb hG.1 hP 5 0 rfl rfl (vp_in_nI (by omega) (by decide)) d_TT_depthOf_58 ?_
    refine mt_ri (y := nI (dp y)) (by rw [nI_clamp (by omega)]; exact (hE _ (by omega)).1) ?_
    refine va_mmax hx hb (by rw [hml]; exact hl.1.symm) hown (hts _ wd_174) (hts _ wd_175) (hts _ wd_5) (hts _ wd_176) (Nat.le_of_ble_eq_true rfl) (Nat.le_of_ble_eq_true rfl) (Nat.le_refl _) (Nat.le_refl _) d_TT_depthOf_59 ?_
    refine mt_ri (y := nI (max (dp x) (dp y))) (mt_maxI (by omega) (by omega)) ?_
    refine lv_iadd hx hb d_TT_depthOf_62 ?_
    refine mt_ri (y := nI (1 + (max (dp x) (dp y)))) (nI_add _ _) ?_
    exact gc_reti (post := fun r => r = nI (mt_dd kk (dp x) (dp y))) hx hb hr hlk (by rw [hs1]; rfl) d_TT_depthOf_63
  · ---- 1=2
    refine mt_ri (y := nI 2) (by rw [hs1]) ?_
    refine lv_tableIn (off := 45) (tgt := 46) hx hb d_TT_depthOf_1 (by decide) (by decide) (by decide) (by decide) ?_
    have hxy1 := hxy (by omega) (by omega)
    have hdx := hdp x hxy1.1
    have hdy := hdp y hxy1.2
    refine lv_iconst (v := nI 1) hx hb d_TT_depthOf_46 (by decide) ?_
    refine lv_aload_n hx hb d_TT_depthOf_47 rfl (lv_at hl 0 rfl) ?_
    refine va_get (D := g.1) (own := R_TT) (ref := R_TT) (ci := 1) (v := .ref (ad 5)) (C := R_TT) (T := F_TT) (N := 6) hx hb hts in_TT hown hG.1 hP 1 rfl rfl 3 (by decide) (hts _ wd_35) (fun _ h9 => h9) rfl d_TT_depthOf_48 ?_
    refine lv_iload_n hx hb d_TT_depthOf_51 rfl (lv_at hl 2 rfl) ?_
    refine va_iald hx hb hG.1 hP 5 0 rfl rfl (vp_in_nI (by omega) (by decide)) d_TT_depthOf_52 ?_
    refine mt_ri (y := nI (dp x)) (by rw [nI_clamp (by omega)]; exact (hE _ (by omega)).1) ?_
    refine lv_aload_n hx hb d_TT_depthOf_53 rfl (lv_at hl 0 rfl) ?_
    refine va_get (D := g.1) (own := R_TT) (ref := R_TT) (ci := 1) (v := .ref (ad 5)) (C := R_TT) (T := F_TT) (N := 6) hx hb hts in_TT hown hG.1 hP 1 rfl rfl 3 (by decide) (hts _ wd_35) (fun _ h9 => h9) rfl d_TT_depthOf_54 ?_
    refine lv_iload_n hx hb d_TT_depthOf_57 rfl (lv_at hl 3 rfl) ?_
    refine va_iald hx hb hG.1 hP 5 0 rfl rfl (vp_in_nI (by omega) (by decide)) d_TT_depthOf_58 ?_
    refine mt_ri (y := nI (dp y)) (by rw [nI_clamp (by omega)]; exact (hE _ (by omega)).1) ?_
    refine va_mmax hx hb (by rw [hml]; exact hl.1.symm) hown (hts _ wd_174) (hts _ wd_175) (hts _ wd_5) (hts _ wd_176) (Nat.le_of_ble_eq_true rfl) (Nat.le_of_ble_eq_true rfl) (Nat.le_refl _) (Nat.le_refl _) d_TT_depthOf_59 ?_
    refine mt_ri (y := nI (max (dp x) (dp y))) (mt_maxI (by omega) (by omega)) ?_
    refine lv_iadd hx hb d_TT_depthOf_62 ?_
    refine mt_ri (y := nI (1 + (max (dp x) (dp y)))) (nI_add _ _) ?_
    exact gc_reti (post := fun r => r = nI (mt_dd kk (dp x) (dp y))) hx hb hr hlk (by rw [hs1]; rfl) d_TT_depthOf_63
  · ---- 1=3
    refine mt_ri (y := nI 3) (by rw [hs1]) ?_
    refine lv_tableIn (off := 63) (tgt := 64) hx hb d_TT_depthOf_1 (by decide) (by decide) (by decide) (by decide) ?_
    have hxy1 := hxy (by omega) (by omega)
    have hdx := hdp x hxy1.1
    have hdy := hdp y hxy1.2
    refine lv_aload_n hx hb d_TT_depthOf_64 rfl (lv_at hl 0 rfl) ?_
    refine va_get (D := g.1) (own := R_TT) (ref := R_TT) (ci := 1) (v := .ref (ad 5)) (C := R_TT) (T := F_TT) (N := 6) hx hb hts in_TT hown hG.1 hP 1 rfl rfl 3 (by decide) (hts _ wd_35) (fun _ h9 => h9) rfl d_TT_depthOf_65 ?_
    refine lv_iload_n hx hb d_TT_depthOf_68 rfl (lv_at hl 2 rfl) ?_
    refine va_iald hx hb hG.1 hP 5 0 rfl rfl (vp_in_nI (by omega) (by decide)) d_TT_depthOf_69 ?_
    refine mt_ri (y := nI (dp x)) (by rw [nI_clamp (by omega)]; exact (hE _ (by omega)).1) ?_
    refine lv_aload_n hx hb d_TT_depthOf_70 rfl (lv_at hl 0 rfl) ?_
    refine va_get (D := g.1) (own := R_TT) (ref := R_TT) (ci := 1) (v := .ref (ad 5)) (C := R_TT) (T := F_TT) (N := 6) hx hb hts in_TT hown hG.1 hP 1 rfl rfl 3 (by decide) (hts _ wd_35) (fun _ h9 => h9) rfl d_TT_depthOf_71 ?_
    refine lv_iload_n hx hb d_TT_depthOf_74 rfl (lv_at hl 3 rfl) ?_
    refine va_iald hx hb hG.1 hP 5 0 rfl rfl (vp_in_nI (by omega) (by decide)) d_TT_depthOf_75 ?_
    refine mt_ri (y := nI (dp y)) (by rw [nI_clamp (by omega)]; exact (hE _ (by omega)).1) ?_
    refine va_mmax hx hb (by rw [hml]; exact hl.1.symm) hown (hts _ wd_174) (hts _ wd_175) (hts _ wd_5) (hts _ wd_176) (Nat.le_of_ble_eq_true rfl) (Nat.le_of_ble_eq_true rfl) (Nat.le_refl _) (Nat.le_refl _) d_TT_depthOf_76 ?_
    refine mt_ri (y := nI (max (dp x) (dp y))) (mt_maxI (by omega) (by omega)) ?_
    exact gc_reti (post := fun r => r = nI (mt_dd kk (dp x) (dp y))) hx hb hr hlk (by rw [hs1]; rfl) d_TT_depthOf_79
  · ---- 1=4
    refine mt_ri (y := nI 4) (by rw [hs1]) ?_
    refine lv_tableIn (off := 63) (tgt := 64) hx hb d_TT_depthOf_1 (by decide) (by decide) (by decide) (by decide) ?_
    have hxy1 := hxy (by omega) (by omega)
    have hdx := hdp x hxy1.1
    have hdy := hdp y hxy1.2
    refine lv_aload_n hx hb d_TT_depthOf_64 rfl (lv_at hl 0 rfl) ?_
    refine va_get (D := g.1) (own := R_TT) (ref := R_TT) (ci := 1) (v := .ref (ad 5)) (C := R_TT) (T := F_TT) (N := 6) hx hb hts in_TT hown hG.1 hP 1 rfl rfl 3 (by decide) (hts _ wd_35) (fun _ h9 => h9) rfl d_TT_depthOf_65 ?_
    refine lv_iload_n hx hb d_TT_depthOf_68 rfl (lv_at hl 2 rfl) ?_
    refine va_iald hx hb hG.1 hP 5 0 rfl rfl (vp_in_nI (by omega) (by decide)) d_TT_depthOf_69 ?_
    refine mt_ri (y := nI (dp x)) (by rw [nI_clamp (by omega)]; exact (hE _ (by omega)).1) ?_
    refine lv_aload_n hx hb d_TT_depthOf_70 rfl (lv_at hl 0 rfl) ?_
    refine va_get (D := g.1) (own := R_TT) (ref := R_TT) (ci := 1) (v := .ref (ad 5)) (C := R_TT) (T := F_TT) (N := 6) hx hb hts in_TT hown hG.1 hP 1 rfl rfl 3 (by decide) (hts _ wd_35) (fun _ h9 => h9) rfl d_TT_depthOf_71 ?_
    refine lv_iload_n hx hb d_TT_depthOf_74 rfl (lv_at hl 3 rfl) ?_
    refine va_iald hx hb hG.1 hP 5 0 rfl rfl (vp_in_nI (by omega) (by decide)) d_TT_depthOf_75 ?_
    refine mt_ri (y := nI (dp y)) (by rw [nI_clamp (by omega)]; exact (hE _ (by omega)).1) ?_
    refine va_mmax hx hb (by rw [hml]; exact hl.1.symm) hown (hts _ wd_174) (hts _ wd_175) (hts _ wd_5) (hts _ wd_176) (Nat.le_of_ble_eq_true rfl) (Nat.le_of_ble_eq_true rfl) (Nat.le_refl _) (Nat.le_refl _) d_TT_depthOf_76 ?_
    refine mt_ri (y := nI (max (dp x) (dp y))) (mt_maxI (by omega) (by omega)) ?_
    exact gc_reti (post := fun r => r = nI (mt_dd kk (dp x) (dp y))) hx hb hr hlk (by rw [hs1]; rfl) d_TT_depthOf_79
  · ---- 1=5
    refine mt_ri (y := nI 5) (by rw [hs1]) ?_
    refine lv_tableIn (off := 63) (tgt := 64) hx hb d_TT_depthOf_1 (by decide) (by decide) (by decide) (by decide) ?_
    have hxy1 := hxy (by omega) (by omega)
    have hdx := hdp x hxy1.1
    have hdy := hdp y hxy1.2
    refine lv_aload_n hx hb d_TT_depthOf_64 rfl (lv_at hl 0 rfl) ?_
    refine va_get (D := g.1) (own := R_TT) (ref := R_TT) (ci := 1) (v := .ref (ad 5)) (C := R_TT) (T := F_TT) (N := 6) hx hb hts in_TT hown hG.1 hP 1 rfl rfl 3 (by decide) (hts _ wd_35) (fun _ h9 => h9) rfl d_TT_depthOf_65 ?_
    refine lv_iload_n hx hb d_TT_depthOf_68 rfl (lv_at hl 2 rfl) ?_
    refine va_iald hx hb hG.1 hP 5 0 rfl rfl (vp_in_nI (by omega) (by decide)) d_TT_depthOf_69 ?_
    refine mt_ri (y := nI (dp x)) (by rw [nI_clamp (by omega)]; exact (hE _ (by omega)).1) ?_
    refine lv_aload_n hx hb d_TT_depthOf_70 rfl (lv_at hl 0 rfl) ?_
    refine va_get (D := g.1) (own := R_TT) (ref := R_TT) (ci := 1) (v := .ref (ad 5)) (C := R_TT) (T := F_TT) (N := 6) hx hb hts in_TT hown hG.1 hP 1 rfl rfl 3 (by decide) (hts _ wd_35) (fun _ h9 => h9) rfl d_TT_depthOf_71 ?_
    refine lv_iload_n hx hb d_TT_depthOf_74 rfl (lv_at hl 3 rfl) ?_
    refine va_iald hx hb hG.1 hP 5 0 rfl rfl (vp_in_nI (by omega) (by decide)) d_TT_depthOf_75 ?_
    refine mt_ri (y := nI (dp y)) (by rw [nI_clamp (by omega)]; exact (hE _ (by omega)).1) ?_
    refine va_mmax hx hb (by rw [hml]; exact hl.1.symm) hown (hts _ wd_174) (hts _ wd_175) (hts _ wd_5) (hts _ wd_176) (Nat.le_of_ble_eq_true rfl) (Nat.le_of_ble_eq_true rfl) (Nat.le_refl _) (Nat.le_refl _) d_TT_depthOf_76 ?_
    refine mt_ri (y := nI (max (dp x) (dp y))) (mt_maxI (by omega) (by omega)) ?_
    exact gc_reti (post := fun r => r = nI (mt_dd kk (dp x) (dp y))) hx hb hr hlk (by rw [hs1]; rfl) d_TT_depthOf_79
  · ---- 1=6
    refine mt_ri (y := nI 6) (by rw [hs1]) ?_
    refine lv_tableIn (off := 43) (tgt := 44) hx hb d_TT_depthOf_1 (by decide) (by decide) (by decide) (by decide) ?_
    refine lv_iconst (v := nI 0) hx hb d_TT_depthOf_44 (by decide) ?_
    exact gc_reti (post := fun r => r = nI (mt_dd kk (dp x) (dp y))) hx hb hr hlk (by rw [hs1]; rfl) d_TT_depthOf_45

set_option maxHeartbeats 4000000 in
set_option maxRecDepth 100000 in
theorem c_TT_makesInterface {g : gG} {ad so sw : Nat → Nat} {I : Nat → Nat → Int32} {n v : Nat} {us : Nat → Nat} {ct : Nat → Nat → Int64} {dp : Nat → Nat} {fc : Nat → Bool} {kk x y : Nat} {l : Launch} (hE : mt_TE I n dp fc) (hn : n ≤ 13) (hk6 : kk ≤ 6) (hxy : kk = 4 → x < n ∧ y < n) :
    gc_RO l y_TT_makesInterface (gx_ws y_TT_makesInterface b_TT_makesInterface 4 (some .boolean)) 0 0 g [.ref (ad 1), .int (nI kk), .int (nI x), .int (nI y)] (cW g ad so sw I n v us ct) (fun r => r = mt_b (mt_ic kk (fc x) (fc y))) := by
  refine gx_body (by decide) (Nat.le_of_ble_eq_true rfl) ?_
  intro p e s m below meth c ls hAt hB hl
  obtain ⟨hx, hb, hml, hown, hts, hr, hlk, hnm⟩ := hAt
  have hown : s.vm.findClass R_TT = some m.cls := hown
  obtain ⟨hP, hG⟩ := hB
  have hl : lv_has ls 4 [(0, .ref (ad 1)), (1, .int (nI kk)), (2, .int (nI x)), (3, .int (nI y))] := hl
  refine lv_iload_n hx hb d_TT_makesInterface_0 rfl (lv_at hl 1 rfl) ?_
  refine lv_iconst (v := nI 4) hx hb d_TT_makesInterface_1 (by decide) ?_
  refine lv_icmp_ne (tgt := 29) hx hb d_TT_makesInterface_2 (by decide) (mt_ne (by omega) (by omega) fun hc2 => ?_) (mt_eq (by omega) (by omega) fun hc2 => ?_)
  · ---- 2T
    refine lv_iload_n hx hb d_TT_makesInterface_29 rfl (lv_at hl 1 rfl) ?_
    refine lv_iconst (v := nI 2) hx hb d_TT_makesInterface_30 (by decide) ?_
    refine lv_icmp_ne (tgt := 38) hx hb d_TT_makesInterface_31 (by decide) (mt_ne (by omega) (by omega) fun hc31 => ?_) (mt_eq (by omega) (by omega) fun hc31 => ?_)
    · ---- 2T 31T
      refine lv_iconst (v := nI 0) hx hb d_TT_makesInterface_38 (by decide) ?_
      exact gc_retz (v := false) (post := fun r => r = mt_b (mt_ic kk (fc x) (fc y))) hx hb hr hlk (by have h9 : (kk == 2) = false := beq_eq_false_iff_ne.mpr hc31; simp [mt_ic, hc2, h9]) d_TT_makesInterface_39
    · ---- 2T 31F
      refine lv_iconst (v := nI 1) hx hb d_TT_makesInterface_34 (by decide) ?_
      refine lv_goto (tgt := 39) hx hb d_TT_makesInterface_35 (by decide) ?_
      exact gc_retz (v := true) (post := fun r => r = mt_b (mt_ic kk (fc x) (fc y))) hx hb hr hlk (by simp [mt_ic, hc31]) d_TT_makesInterface_39
  · ---- 2F
    have hxy1 := hxy hc2
    refine lv_aload_n hx hb d_TT_makesInterface_5 rfl (lv_at hl 0 rfl) ?_
    refine va_get (D := g.1) (own := R_TT) (ref := R_TT) (ci := 1) (v := .ref (ad 6)) (C := R_TT) (T := F_TT) (N := 6) hx hb hts in_TT hown hG.1 hP 1 rfl rfl 4 (by decide) (hts _ wd_36) (fun _ h9 => h9) rfl d_TT_makesInterface_6 ?_
    refine lv_iload_n hx hb d_TT_makesInterface_9 rfl (lv_at hl 2 rfl) ?_
    refine va_zald hx hb hG.1 hP 6 1 rfl rfl (vp_in_nI (by omega) (by decide)) d_TT_makesInterface_10 ?_
    refine mt_ri (y := mt_b (fc x)) (by rw [nI_clamp (by omega)]; exact (hE _ (by omega)).2) ?_
    refine lv_if_eq (tgt := 27) hx hb d_TT_makesInterface_11 (by decide) (mt_z fun hc11 => ?_) (mt_nz fun hc11 => ?_)
    · ---- 2F 11T
      refine lv_iconst (v := nI 0) hx hb d_TT_makesInterface_27 (by decide) ?_
      exact gc_retz (v := false) (post := fun r => r = mt_b (mt_ic kk (fc x) (fc y))) hx hb hr hlk (by simp [mt_ic, hc2, hc11]) d_TT_makesInterface_28
    · ---- 2F 11F
      refine lv_aload_n hx hb d_TT_makesInterface_14 rfl (lv_at hl 0 rfl) ?_
      refine va_get (D := g.1) (own := R_TT) (ref := R_TT) (ci := 1) (v := .ref (ad 6)) (C := R_TT) (T := F_TT) (N := 6) hx hb hts in_TT hown hG.1 hP 1 rfl rfl 4 (by decide) (hts _ wd_36) (fun _ h9 => h9) rfl d_TT_makesInterface_15 ?_
      refine lv_iload_n hx hb d_TT_makesInterface_18 rfl (lv_at hl 3 rfl) ?_
      refine va_zald hx hb hG.1 hP 6 1 rfl rfl (vp_in_nI (by omega) (by decide)) d_TT_makesInterface_19 ?_
      refine mt_ri (y := mt_b (fc y)) (by rw [nI_clamp (by omega)]; exact (hE _ (by omega)).2) ?_
      refine lv_if_eq (tgt := 27) hx hb d_TT_makesInterface_20 (by decide) (mt_z fun hc20 => ?_) (mt_nz fun hc20 => ?_)
      · ---- 2F 11F 20T
        refine lv_iconst (v := nI 0) hx hb d_TT_makesInterface_27 (by decide) ?_
        exact gc_retz (v := false) (post := fun r => r = mt_b (mt_ic kk (fc x) (fc y))) hx hb hr hlk (by simp [mt_ic, hc2, hc20]) d_TT_makesInterface_28
      · ---- 2F 11F 20F
        refine lv_iconst (v := nI 1) hx hb d_TT_makesInterface_23 (by decide) ?_
        refine lv_goto (tgt := 28) hx hb d_TT_makesInterface_24 (by decide) ?_
        exact gc_retz (v := true) (post := fun r => r = mt_b (mt_ic kk (fc x) (fc y))) hx hb hr hlk (by simp [mt_ic, hc2, hc11, hc20]) d_TT_makesInterface_28

set_option maxHeartbeats 4000000 in
set_option maxRecDepth 100000 in
theorem c_TT_allOfKind {g : gG} {ad so sw : Nat → Nat} {I : Nat → Nat → Int32} {n v : Nat} {us : Nat → Nat} {ct : Nat → Nat → Int64}{k a b : Nat → Nat} {ww : Nat} {l : Launch} (hT : mt_TR I n k a b) (hn : n ≤ 13) (hw : mt_wf k a b n) (hw6 : ww ≤ 6) :
    gc_RO l y_TT_allOfKind (gx_ws y_TT_allOfKind b_TT_allOfKind 4 (some .int)) 0 0 g [.ref (ad 1), .int (nI ww)] (cW g ad so sw I n v us ct) (fun r => r = nI (mt_ma (fun t => k t == ww) n)) := by
  refine gx_body (by decide) (Nat.le_of_ble_eq_true rfl) ?_
  intro p e s m below meth c ls hAt hB hl
  obtain ⟨hx, hb, hml, hown, hts, hr, hlk, hnm⟩ := hAt
  have hown : s.vm.findClass R_TT = some m.cls := hown
  obtain ⟨hP, hG⟩ := hB
  have hl : lv_has ls 4 [(0, .ref (ad 1)), (1, .int (nI ww))] := hl
  refine lv_iconst (v := nI 0) hx hb d_TT_allOfKind_0 (by decide) ?_
  refine lv_istore_n (lv' := [(2, .int (nI 0)), (0, .ref (ad 1)), (1, .int (nI ww))]) hx hb d_TT_allOfKind_1 rfl hl (by decide) rfl (fun ls hl => ?_)
  refine lv_iconst (v := nI 0) hx hb d_TT_allOfKind_2 (by decide) ?_
  refine lv_istore_n (lv' := [(3, .int (nI 0)), (2, .int (nI 0)), (0, .ref (ad 1)), (1, .int (nI ww))]) hx hb d_TT_allOfKind_3 rfl hl (by decide) rfl (fun ls hl => ?_)
  have lp4 : ∀ (d : Nat) (i : Nat) (x : Nat) (ls : Array Slot), d = n - i → (i ≤ n) → (x = mt_ma (fun t => k t == ww) i) → lv_has ls 4 [(3, .int (nI i)), (2, .int (nI x)), (0, .ref (ad 1)), (1, .int (nI ww))] → W p l e (gx_rm 0 0) s m ([.ref (ad 1), .int (nI ww)] : List Value).toArray below meth c s.heap [] 0 0 (MQ below (vp_Si (fun r => r = nI (mt_ma (fun t => k t == ww) n))) ([.ref (ad 1), .int (nI ww)] : List Value).toArray s 0 0 (fun _ => False)) (F0 m 4 ls []) := by
    intro d
    induction d using Nat.strongRecOn with
    | ind d ih4 =>
    intro i x ls hd hi hxm hl
    refine lv_iload_n hx hb d_TT_allOfKind_4 rfl (lv_at hl 0 rfl) ?_
    refine lv_aload_n hx hb d_TT_allOfKind_5 rfl (lv_at hl 2 rfl) ?_
    refine va_get (D := g.1) (own := R_TT) (ref := R_TT) (ci := 1) (v := .int (nI n)) (C := R_TT) (T := F_TT) (N := 6) hx hb hts in_TT hown hG.1 hP 1 rfl rfl 5 (by decide) (hts _ wd_39) (fun _ h9 => h9) rfl d_TT_allOfKind_6 ?_
    refine lv_icmp_ge (tgt := 34) hx hb d_TT_allOfKind_9 (by decide) (mt_le (by omega) (by omega) fun hc9 => ?_) (mt_nle (by omega) (by omega) fun hc9 => ?_)
    · ---- 9T
      refine lv_iload_n hx hb d_TT_allOfKind_34 rfl (lv_at hl 1 rfl) ?_
      exact gc_reti (post := fun r => r = nI (mt_ma (fun t => k t == ww) n)) hx hb hr hlk (by rw [hxm, show i = n by omega]) d_TT_allOfKind_35
    · ---- 9F
      have hk6 := (hw i (by omega)).1
      refine lv_aload_n hx hb d_TT_allOfKind_12 rfl (lv_at hl 2 rfl) ?_
      refine va_get (D := g.1) (own := R_TT) (ref := R_TT) (ci := 1) (v := .ref (ad 2)) (C := R_TT) (T := F_TT) (N := 6) hx hb hts in_TT hown hG.1 hP 1 rfl rfl 0 (by decide) (hts _ wd_30) (fun _ h9 => h9) rfl d_TT_allOfKind_13 ?_
      refine lv_iload_n hx hb d_TT_allOfKind_16 rfl (lv_at hl 0 rfl) ?_
      refine va_iald hx hb hG.1 hP 2 0 rfl rfl (vp_in_nI (by omega) (by decide)) d_TT_allOfKind_17 ?_
      refine mt_ri (y := nI (k i)) (by rw [nI_clamp (by omega)]; exact (hT _ (by omega)).1) ?_
      refine lv_iload_n hx hb d_TT_allOfKind_18 rfl (lv_at hl 3 rfl) ?_
      refine lv_icmp_ne (tgt := 28) hx hb d_TT_allOfKind_19 (by decide) (mt_ne (by omega) (by omega) fun hc19 => ?_) (mt_eq (by omega) (by omega) fun hc19 => ?_)
      · ---- 9F 19T
        refine lv_iinc (k := 0) (v := nI (i + 1)) (lv' := [(3, .int (nI (i + 1))), (2, .int (nI x)), (0, .ref (ad 1)), (1, .int (nI ww))]) hx hb d_TT_allOfKind_28 hl rfl (by rw [lit1]; exact nI_1 _) (by decide) rfl (fun ls hl => ?_)
        refine lv_goto (tgt := 4) hx hb d_TT_allOfKind_31 (by decide) ?_
        exact ih4 _ (by omega) (i + 1) x ls rfl (by omega) (by rw [hxm]; exact mt_ma_f (by simp [hc19])) (lv_sub hl [0, 1, 2, 3] rfl)
      · ---- 9F 19F
        refine lv_iload_n hx hb d_TT_allOfKind_22 rfl (lv_at hl 1 rfl) ?_
        refine lv_iconst (v := nI 1) hx hb d_TT_allOfKind_23 (by decide) ?_
        refine lv_iload_n hx hb d_TT_allOfKind_24 rfl (lv_at hl 0 rfl) ?_
        refine lv_ishl hx hb d_TT_allOfKind_25 ?_
        refine mt_ri (y := nI (2 ^ i)) (mt_shl (by omega)) ?_
        refine lv_ior hx hb d_TT_allOfKind_26 ?_
        refine mt_ri (y := nI (x ||| (2 ^ i))) (mt_or _ _) ?_
        refine lv_istore_n (lv' := [(2, .int (nI (x ||| (2 ^ i)))), (3, .int (nI i)), (0, .ref (ad 1)), (1, .int (nI ww))]) hx hb d_TT_allOfKind_27 rfl hl (by decide) rfl (fun ls hl => ?_)
        refine lv_iinc (k := 1) (v := nI (i + 1)) (lv' := [(3, .int (nI (i + 1))), (2, .int (nI (x ||| (2 ^ i)))), (0, .ref (ad 1)), (1, .int (nI ww))]) hx hb d_TT_allOfKind_28 hl rfl (by rw [lit1]; exact nI_1 _) (by decide) rfl (fun ls hl => ?_)
        refine lv_goto (tgt := 4) hx hb d_TT_allOfKind_31 (by decide) ?_
        exact ih4 _ (by omega) (i + 1) (x ||| (2 ^ i)) ls rfl (by omega) (by rw [hxm]; exact mt_ma_t (by simp [hc19])) (lv_sub hl [0, 1, 2, 3] rfl)
  exact lp4 _ 0 0 ls rfl (Nat.zero_le _) (rfl) (lv_sub hl [0, 1, 2, 3] rfl)

set_option maxHeartbeats 4000000 in
set_option maxRecDepth 100000 in
theorem c_TT_partHolds1 {g : gG} {ad so sw : Nat → Nat} {I : Nat → Nat → Int32} {n v : Nat} {us : Nat → Nat} {ct : Nat → Nat → Int64}{k a b : Nat → Nat} {ww pp : Nat} {l : Launch} (hT : mt_TR I n k a b) (hn : n ≤ 13) (hw : mt_wf k a b n) (hw0 : ww = 1 ∨ ww = 2) (hpp : pp < 8192) :
    gc_RO l y_TT_partHolds (gx_ws y_TT_partHolds b_TT_partHolds 6 (some .int)) 1 21 g [.ref (ad 1), .int (nI ww), .ref (ad 3), .int (nI pp)] (cW g ad so sw I n v us ct) (fun r => r = nI (mt_ma (fun t => k t == ww && pp.testBit (a t)) n)) := by
  refine gx_body (by decide) (Nat.le_of_ble_eq_true rfl) ?_
  intro p e s m below meth c ls hAt hB hl
  obtain ⟨hx, hb, hml, hown, hts, hr, hlk, hnm⟩ := hAt
  have hown : s.vm.findClass R_TT = some m.cls := hown
  obtain ⟨hP, hG⟩ := hB
  have hl : lv_has ls 6 [(0, .ref (ad 1)), (1, .int (nI ww)), (2, .ref (ad 3)), (3, .int (nI pp))] := hl
  refine lv_iconst (v := nI 0) hx hb d_TT_partHolds_0 (by decide) ?_
  refine lv_istore (lv' := [(4, .int (nI 0)), (0, .ref (ad 1)), (1, .int (nI ww)), (2, .ref (ad 3)), (3, .int (nI pp))]) hx hb d_TT_partHolds_1 hl (by decide) rfl (fun ls hl => ?_)
  refine lv_iconst (v := nI 0) hx hb d_TT_partHolds_3 (by decide) ?_
  refine lv_istore (lv' := [(5, .int (nI 0)), (4, .int (nI 0)), (0, .ref (ad 1)), (1, .int (nI ww)), (2, .ref (ad 3)), (3, .int (nI pp))]) hx hb d_TT_partHolds_4 hl (by decide) rfl (fun ls hl => ?_)
  have lp6 : ∀ (d : Nat) (i : Nat) (x : Nat) (ls : Array Slot), d = n - i → (i ≤ n) → (x = mt_ma (fun t => k t == ww && pp.testBit (a t)) i) → lv_has ls 6 [(5, .int (nI i)), (4, .int (nI x)), (0, .ref (ad 1)), (1, .int (nI ww)), (2, .ref (ad 3)), (3, .int (nI pp))] → W p l e (gx_rm 1 21) s m ([.ref (ad 1), .int (nI ww), .ref (ad 3), .int (nI pp)] : List Value).toArray below meth c s.heap [] 0 0 (MQ below (vp_Si (fun r => r = nI (mt_ma (fun t => k t == ww && pp.testBit (a t)) n))) ([.ref (ad 1), .int (nI ww), .ref (ad 3), .int (nI pp)] : List Value).toArray s 0 0 (fun _ => False)) (F0 m 6 ls []) := by
    intro d
    induction d using Nat.strongRecOn with
    | ind d ih6 =>
    intro i x ls hd hi hxm hl
    refine lv_iload hx hb d_TT_partHolds_6 (lv_at hl 0 rfl) ?_
    refine lv_aload_n hx hb d_TT_partHolds_8 rfl (lv_at hl 2 rfl) ?_
    refine va_get (D := g.1) (own := R_TT) (ref := R_TT) (ci := 1) (v := .int (nI n)) (C := R_TT) (T := F_TT) (N := 6) hx hb hts in_TT hown hG.1 hP 1 rfl rfl 5 (by decide) (hts _ wd_39) (fun _ h9 => h9) rfl d_TT_partHolds_9 ?_
    refine lv_icmp_ge (tgt := 52) hx hb d_TT_partHolds_12 (by decide) (mt_le (by omega) (by omega) fun hc12 => ?_) (mt_nle (by omega) (by omega) fun hc12 => ?_)
    · ---- 12T
      refine lv_iload hx hb d_TT_partHolds_52 (lv_at hl 1 rfl) ?_
      exact gc_reti (post := fun r => r = nI (mt_ma (fun t => k t == ww && pp.testBit (a t)) n)) hx hb hr hlk (by rw [hxm, show i = n by omega]) d_TT_partHolds_54
    · ---- 12F
      have hk6 := (hw i (by omega)).1
      refine lv_aload_n hx hb d_TT_partHolds_15 rfl (lv_at hl 2 rfl) ?_
      refine va_get (D := g.1) (own := R_TT) (ref := R_TT) (ci := 1) (v := .ref (ad 2)) (C := R_TT) (T := F_TT) (N := 6) hx hb hts in_TT hown hG.1 hP 1 rfl rfl 0 (by decide) (hts _ wd_30) (fun _ h9 => h9) rfl d_TT_partHolds_16 ?_
      refine lv_iload hx hb d_TT_partHolds_19 (lv_at hl 0 rfl) ?_
      refine va_iald hx hb hG.1 hP 2 0 rfl rfl (vp_in_nI (by omega) (by decide)) d_TT_partHolds_21 ?_
      refine mt_ri (y := nI (k i)) (by rw [nI_clamp (by omega)]; exact (hT _ (by omega)).1) ?_
      refine lv_iload_n hx hb d_TT_partHolds_22 rfl (lv_at hl 3 rfl) ?_
      refine lv_icmp_ne (tgt := 46) hx hb d_TT_partHolds_23 (by decide) (mt_ne (by omega) (by omega) fun hc23 => ?_) (mt_eq (by omega) (by omega) fun hc23 => ?_)
      · ---- 12F 23T
        refine lv_iinc (k := 0) (v := nI (i + 1)) (lv' := [(5, .int (nI (i + 1))), (4, .int (nI x)), (0, .ref (ad 1)), (1, .int (nI ww)), (2, .ref (ad 3)), (3, .int (nI pp))]) hx hb d_TT_partHolds_46 hl rfl (by rw [lit1]; exact nI_1 _) (by decide) rfl (fun ls hl => ?_)
        refine lv_goto (tgt := 6) hx hb d_TT_partHolds_49 (by decide) ?_
        exact ih6 _ (by omega) (i + 1) x ls rfl (by omega) (by rw [hxm]; exact mt_ma_f (by simp [hc23])) (lv_sub hl [0, 1, 2, 3, 4, 5] rfl)
      · ---- 12F 23F
        have hk7 := (hw i (by omega)).2.1 (by omega) (by omega)
        refine lv_iload_n hx hb d_TT_partHolds_26 rfl (lv_at hl 5 rfl) ?_
        refine lv_aload_n hx hb d_TT_partHolds_27 rfl (lv_at hl 4 rfl) ?_
        refine lv_iload hx hb d_TT_partHolds_28 (lv_at hl 0 rfl) ?_
        refine va_iald hx hb hG.1 hP 3 0 rfl rfl (vp_in_nI (by omega) (by decide)) d_TT_partHolds_30 ?_
        refine mt_ri (y := nI (a i)) (by rw [nI_clamp (by omega)]; exact (hT _ (by omega)).2.1) ?_
        refine vp_callSi (va_runSN (own := R_TT) (As := [.int (nI pp), .int (nI (a i))]) (rest := []) ⟨hx, hb, hml, hown, hts⟩ (c_MT_holds (l := l) (g := g) (pp := pp) (t := a i) (by omega) (by omega)) ⟨va_cnB 2 hts (gx_good wd_187) rfl rfl rfl (hG.2.1 _ nw_13) (hts _ wd_1) (by decide +kernel) ⟨Nat.le_of_ble_eq_true rfl, Nat.le_of_ble_eq_true rfl⟩, hts _ wd_186, trivial⟩ (gc_preS (ws := []) (fun _ _ h => by cases h) hG) rfl rfl hl.1 rfl (lv_room (Nat.le_of_ble_eq_true rfl)) d_TT_partHolds_31 ⟨Nat.le_refl _, Nat.le_refl _⟩).run (fun r hr31 => ?_)
        subst hr31
        refine lv_if_eq (tgt := 46) hx hb d_TT_partHolds_34 (by decide) (mt_z fun hc34 => ?_) (mt_nz fun hc34 => ?_)
        · ---- 12F 23F 34T
          refine lv_iinc (k := 0) (v := nI (i + 1)) (lv' := [(5, .int (nI (i + 1))), (4, .int (nI x)), (0, .ref (ad 1)), (1, .int (nI ww)), (2, .ref (ad 3)), (3, .int (nI pp))]) hx hb d_TT_partHolds_46 hl rfl (by rw [lit1]; exact nI_1 _) (by decide) rfl (fun ls hl => ?_)
          refine lv_goto (tgt := 6) hx hb d_TT_partHolds_49 (by decide) ?_
          exact ih6 _ (by omega) (i + 1) x ls rfl (by omega) (by rw [hxm]; exact mt_ma_f (by simp [hc34])) (lv_sub hl [0, 1, 2, 3, 4, 5] rfl)
        · ---- 12F 23F 34F
          refine lv_iload hx hb d_TT_partHolds_37 (lv_at hl 1 rfl) ?_
          refine lv_iconst (v := nI 1) hx hb d_TT_partHolds_39 (by decide) ?_
          refine lv_iload hx hb d_TT_partHolds_40 (lv_at hl 0 rfl) ?_
          refine lv_ishl hx hb d_TT_partHolds_42 ?_
          refine mt_ri (y := nI (2 ^ i)) (mt_shl (by omega)) ?_
          refine lv_ior hx hb d_TT_partHolds_43 ?_
          refine mt_ri (y := nI (x ||| (2 ^ i))) (mt_or _ _) ?_
          refine lv_istore (lv' := [(4, .int (nI (x ||| (2 ^ i)))), (5, .int (nI i)), (0, .ref (ad 1)), (1, .int (nI ww)), (2, .ref (ad 3)), (3, .int (nI pp))]) hx hb d_TT_partHolds_44 hl (by decide) rfl (fun ls hl => ?_)
          refine lv_iinc (k := 1) (v := nI (i + 1)) (lv' := [(5, .int (nI (i + 1))), (4, .int (nI (x ||| (2 ^ i)))), (0, .ref (ad 1)), (1, .int (nI ww)), (2, .ref (ad 3)), (3, .int (nI pp))]) hx hb d_TT_partHolds_46 hl rfl (by rw [lit1]; exact nI_1 _) (by decide) rfl (fun ls hl => ?_)
          refine lv_goto (tgt := 6) hx hb d_TT_partHolds_49 (by decide) ?_
          exact ih6 _ (by omega) (i + 1) (x ||| (2 ^ i)) ls rfl (by omega) (by rw [hxm]; exact mt_ma_t (by simp [hc23, hc34])) (lv_sub hl [0, 1, 2, 3, 4, 5] rfl)
  exact lp6 _ 0 0 ls rfl (Nat.zero_le _) (rfl) (lv_sub hl [0, 1, 2, 3, 4, 5] rfl)

set_option maxHeartbeats 4000000 in
set_option maxRecDepth 100000 in
theorem c_TT_partHolds2 {g : gG} {ad so sw : Nat → Nat} {I : Nat → Nat → Int32} {n v : Nat} {us : Nat → Nat} {ct : Nat → Nat → Int64}{k a b : Nat → Nat} {ww pp : Nat} {l : Launch} (hT : mt_TR I n k a b) (hn : n ≤ 13) (hw : mt_wf k a b n) (hw0 : ww = 1 ∨ ww = 2) (hpp : pp < 8192) :
    gc_RO l y_TT_partHolds (gx_ws y_TT_partHolds b_TT_partHolds 6 (some .int)) 1 21 g [.ref (ad 1), .int (nI ww), .ref (ad 4), .int (nI pp)] (cW g ad so sw I n v us ct) (fun r => r = nI (mt_ma (fun t => k t == ww && pp.testBit (b t)) n)) := by
  refine gx_body (by decide) (Nat.le_of_ble_eq_true rfl) ?_
  intro p e s m below meth c ls hAt hB hl
  obtain ⟨hx, hb, hml, hown, hts, hr, hlk, hnm⟩ := hAt
  have hown : s.vm.findClass R_TT = some m.cls := hown
  obtain ⟨hP, hG⟩ := hB
  have hl : lv_has ls 6 [(0, .ref (ad 1)), (1, .int (nI ww)), (2, .ref (ad 4)), (3, .int (nI pp))] := hl
  refine lv_iconst (v := nI 0) hx hb d_TT_partHolds_0 (by decide) ?_
  refine lv_istore (lv' := [(4, .int (nI 0)), (0, .ref (ad 1)), (1, .int (nI ww)), (2, .ref (ad 4)), (3, .int (nI pp))]) hx hb d_TT_partHolds_1 hl (by decide) rfl (fun ls hl => ?_)
  refine lv_iconst (v := nI 0) hx hb d_TT_partHolds_3 (by decide) ?_
  refine lv_istore (lv' := [(5, .int (nI 0)), (4, .int (nI 0)), (0, .ref (ad 1)), (1, .int (nI ww)), (2, .ref (ad 4)), (3, .int (nI pp))]) hx hb d_TT_partHolds_4 hl (by decide) rfl (fun ls hl => ?_)
  have lp6 : ∀ (d : Nat) (i : Nat) (x : Nat) (ls : Array Slot), d = n - i → (i ≤ n) → (x = mt_ma (fun t => k t == ww && pp.testBit (b t)) i) → lv_has ls 6 [(5, .int (nI i)), (4, .int (nI x)), (0, .ref (ad 1)), (1, .int (nI ww)), (2, .ref (ad 4)), (3, .int (nI pp))] → W p l e (gx_rm 1 21) s m ([.ref (ad 1), .int (nI ww), .ref (ad 4), .int (nI pp)] : List Value).toArray below meth c s.heap [] 0 0 (MQ below (vp_Si (fun r => r = nI (mt_ma (fun t => k t == ww && pp.testBit (b t)) n))) ([.ref (ad 1), .int (nI ww), .ref (ad 4), .int (nI pp)] : List Value).toArray s 0 0 (fun _ => False)) (F0 m 6 ls []) := by
    intro d
    induction d using Nat.strongRecOn with
    | ind d ih6 =>
    intro i x ls hd hi hxm hl
    refine lv_iload hx hb d_TT_partHolds_6 (lv_at hl 0 rfl) ?_
    refine lv_aload_n hx hb d_TT_partHolds_8 rfl (lv_at hl 2 rfl) ?_
    refine va_get (D := g.1) (own := R_TT) (ref := R_TT) (ci := 1) (v := .int (nI n)) (C := R_TT) (T := F_TT) (N := 6) hx hb hts in_TT hown hG.1 hP 1 rfl rfl 5 (by decide) (hts _ wd_39) (fun _ h9 => h9) rfl d_TT_partHolds_9 ?_
    refine lv_icmp_ge (tgt := 52) hx hb d_TT_partHolds_12 (by decide) (mt_le (by omega) (by omega) fun hc12 => ?_) (mt_nle (by omega) (by omega) fun hc12 => ?_)
    · ---- 12T
      refine lv_iload hx hb d_TT_partHolds_52 (lv_at hl 1 rfl) ?_
      exact gc_reti (post := fun r => r = nI (mt_ma (fun t => k t == ww && pp.testBit (b t)) n)) hx hb hr hlk (by rw [hxm, show i = n by omega]) d_TT_partHolds_54
    · ---- 12F
      have hk6 := (hw i (by omega)).1
      refine lv_aload_n hx hb d_TT_partHolds_15 rfl (lv_at hl 2 rfl) ?_
      refine va_get (D := g.1) (own := R_TT) (ref := R_TT) (ci := 1) (v := .ref (ad 2)) (C := R_TT) (T := F_TT) (N := 6) hx hb hts in_TT hown hG.1 hP 1 rfl rfl 0 (by decide) (hts _ wd_30) (fun _ h9 => h9) rfl d_TT_partHolds_16 ?_
      refine lv_iload hx hb d_TT_partHolds_19 (lv_at hl 0 rfl) ?_
      refine va_iald hx hb hG.1 hP 2 0 rfl rfl (vp_in_nI (by omega) (by decide)) d_TT_partHolds_21 ?_
      refine mt_ri (y := nI (k i)) (by rw [nI_clamp (by omega)]; exact (hT _ (by omega)).1) ?_
      refine lv_iload_n hx hb d_TT_partHolds_22 rfl (lv_at hl 3 rfl) ?_
      refine lv_icmp_ne (tgt := 46) hx hb d_TT_partHolds_23 (by decide) (mt_ne (by omega) (by omega) fun hc23 => ?_) (mt_eq (by omega) (by omega) fun hc23 => ?_)
      · ---- 12F 23T
        refine lv_iinc (k := 0) (v := nI (i + 1)) (lv' := [(5, .int (nI (i + 1))), (4, .int (nI x)), (0, .ref (ad 1)), (1, .int (nI ww)), (2, .ref (ad 4)), (3, .int (nI pp))]) hx hb d_TT_partHolds_46 hl rfl (by rw [lit1]; exact nI_1 _) (by decide) rfl (fun ls hl => ?_)
        refine lv_goto (tgt := 6) hx hb d_TT_partHolds_49 (by decide) ?_
        exact ih6 _ (by omega) (i + 1) x ls rfl (by omega) (by rw [hxm]; exact mt_ma_f (by simp [hc23])) (lv_sub hl [0, 1, 2, 3, 4, 5] rfl)
      · ---- 12F 23F
        have hk7 := (hw i (by omega)).2.1 (by omega) (by omega)
        refine lv_iload_n hx hb d_TT_partHolds_26 rfl (lv_at hl 5 rfl) ?_
        refine lv_aload_n hx hb d_TT_partHolds_27 rfl (lv_at hl 4 rfl) ?_
        refine lv_iload hx hb d_TT_partHolds_28 (lv_at hl 0 rfl) ?_
        refine va_iald hx hb hG.1 hP 4 0 rfl rfl (vp_in_nI (by omega) (by decide)) d_TT_partHolds_30 ?_
        refine mt_ri (y := nI (b i)) (by rw [nI_clamp (by omega)]; exact (hT _ (by omega)).2.2 (by omega)) ?_
        refine vp_callSi (va_runSN (own := R_TT) (As := [.int (nI pp), .int (nI (b i))]) (rest := []) ⟨hx, hb, hml, hown, hts⟩ (c_MT_holds (l := l) (g := g) (pp := pp) (t := b i) (by omega) (by omega)) ⟨va_cnB 2 hts (gx_good wd_187) rfl rfl rfl (hG.2.1 _ nw_13) (hts _ wd_1) (by decide +kernel) ⟨Nat.le_of_ble_eq_true rfl, Nat.le_of_ble_eq_true rfl⟩, hts _ wd_186, trivial⟩ (gc_preS (ws := []) (fun _ _ h => by cases h) hG) rfl rfl hl.1 rfl (lv_room (Nat.le_of_ble_eq_true rfl)) d_TT_partHolds_31 ⟨Nat.le_refl _, Nat.le_refl _⟩).run (fun r hr31 => ?_)
        subst hr31
        refine lv_if_eq (tgt := 46) hx hb d_TT_partHolds_34 (by decide) (mt_z fun hc34 => ?_) (mt_nz fun hc34 => ?_)
        · ---- 12F 23F 34T
          refine lv_iinc (k := 0) (v := nI (i + 1)) (lv' := [(5, .int (nI (i + 1))), (4, .int (nI x)), (0, .ref (ad 1)), (1, .int (nI ww)), (2, .ref (ad 4)), (3, .int (nI pp))]) hx hb d_TT_partHolds_46 hl rfl (by rw [lit1]; exact nI_1 _) (by decide) rfl (fun ls hl => ?_)
          refine lv_goto (tgt := 6) hx hb d_TT_partHolds_49 (by decide) ?_
          exact ih6 _ (by omega) (i + 1) x ls rfl (by omega) (by rw [hxm]; exact mt_ma_f (by simp [hc34])) (lv_sub hl [0, 1, 2, 3, 4, 5] rfl)
        · ---- 12F 23F 34F
          refine lv_iload hx hb d_TT_partHolds_37 (lv_at hl 1 rfl) ?_
          refine lv_iconst (v := nI 1) hx hb d_TT_partHolds_39 (by decide) ?_
          refine lv_iload hx hb d_TT_partHolds_40 (lv_at hl 0 rfl) ?_
          refine lv_ishl hx hb d_TT_partHolds_42 ?_
          refine mt_ri (y := nI (2 ^ i)) (mt_shl (by omega)) ?_
          refine lv_ior hx hb d_TT_partHolds_43 ?_
          refine mt_ri (y := nI (x ||| (2 ^ i))) (mt_or _ _) ?_
          refine lv_istore (lv' := [(4, .int (nI (x ||| (2 ^ i)))), (5, .int (nI i)), (0, .ref (ad 1)), (1, .int (nI ww)), (2, .ref (ad 4)), (3, .int (nI pp))]) hx hb d_TT_partHolds_44 hl (by decide) rfl (fun ls hl => ?_)
          refine lv_iinc (k := 1) (v := nI (i + 1)) (lv' := [(5, .int (nI (i + 1))), (4, .int (nI (x ||| (2 ^ i)))), (0, .ref (ad 1)), (1, .int (nI ww)), (2, .ref (ad 4)), (3, .int (nI pp))]) hx hb d_TT_partHolds_46 hl rfl (by rw [lit1]; exact nI_1 _) (by decide) rfl (fun ls hl => ?_)
          refine lv_goto (tgt := 6) hx hb d_TT_partHolds_49 (by decide) ?_
          exact ih6 _ (by omega) (i + 1) (x ||| (2 ^ i)) ls rfl (by omega) (by rw [hxm]; exact mt_ma_t (by simp [hc23, hc34])) (lv_sub hl [0, 1, 2, 3, 4, 5] rfl)
  exact lp6 _ 0 0 ls rfl (Nat.zero_le _) (rfl) (lv_sub hl [0, 1, 2, 3, 4, 5] rfl)

set_option maxHeartbeats 4000000 in
set_option maxRecDepth 100000 in
theorem c_TT_followsFromParts {g : gG} {ad so sw : Nat → Nat} {I : Nat → Nat → Int32} {n v : Nat} {us : Nat → Nat} {ct : Nat → Nat → Int64}{k a b : Nat → Nat} {t pp : Nat} {l : Launch} (hT : mt_TR I n k a b) (hn : n ≤ 13) (hw : mt_wf k a b n) (ht : t < n) (hpp : pp < 8192) :
    gc_RO l y_TT_followsFromParts (gx_ws y_TT_followsFromParts b_TT_followsFromParts 3 (some .boolean)) 1 21 g [.ref (ad 1), .int (nI t), .int (nI pp)] (cW g ad so sw I n v us ct) (fun r => r = mt_b (mt_in k a b (fun _ => false) t pp)) := by
  refine gx_body (by decide) (Nat.le_of_ble_eq_true rfl) ?_
  intro p e s m below meth c ls hAt hB hl
  obtain ⟨hx, hb, hml, hown, hts, hr, hlk, hnm⟩ := hAt
  have hown : s.vm.findClass R_TT = some m.cls := hown
  obtain ⟨hP, hG⟩ := hB
  have hl : lv_has ls 3 [(0, .ref (ad 1)), (1, .int (nI t)), (2, .int (nI pp))] := hl
  have hw1 := hw t ht
  refine lv_aload_n hx hb d_TT_followsFromParts_0 rfl (lv_at hl 0 rfl) ?_
  refine va_get (D := g.1) (own := R_TT) (ref := R_TT) (ci := 1) (v := .ref (ad 2)) (C := R_TT) (T := F_TT) (N := 6) hx hb hts in_TT hown hG.1 hP 1 rfl rfl 0 (by decide) (hts _ wd_30) (fun _ h9 => h9) rfl d_TT_followsFromParts_1 ?_
  refine lv_iload_n hx hb d_TT_followsFromParts_4 rfl (lv_at hl 1 rfl) ?_
  refine va_iald hx hb hG.1 hP 2 0 rfl rfl (vp_in_nI (by omega) (by decide)) d_TT_followsFromParts_5 ?_
  refine mt_ri (y := nI (k t)) (by rw [nI_clamp (by omega)]; exact (hT _ (by omega)).1) ?_
  have hsw6 : k t = 0 ∨ k t = 1 ∨ k t = 2 ∨ k t = 3 ∨ k t = 4 ∨ k t = 5 ∨ k t = 6 := by omega
  rcases hsw6 with hs6 | hs6 | hs6 | hs6 | hs6 | hs6 | hs6
  · ---- 6=0
    refine mt_ri (y := nI 0) (by rw [hs6]) ?_
    refine lv_tableOut (tgt := 121) hx hb d_TT_followsFromParts_6 (by decide) (by decide) ?_
    refine lv_iconst (v := nI 0) hx hb d_TT_followsFromParts_121 (by decide) ?_
    exact gc_retz (v := false) (post := fun r => r = mt_b (mt_in k a b (fun _ => false) t pp)) hx hb hr hlk (by simp [mt_in, hs6]) d_TT_followsFromParts_122
  · ---- 6=1
    refine mt_ri (y := nI 1) (by rw [hs6]) ?_
    refine lv_tableOut (tgt := 121) hx hb d_TT_followsFromParts_6 (by decide) (by decide) ?_
    refine lv_iconst (v := nI 0) hx hb d_TT_followsFromParts_121 (by decide) ?_
    exact gc_retz (v := false) (post := fun r => r = mt_b (mt_in k a b (fun _ => false) t pp)) hx hb hr hlk (by simp [mt_in, hs6]) d_TT_followsFromParts_122
  · ---- 6=2
    refine mt_ri (y := nI 2) (by rw [hs6]) ?_
    refine lv_tableOut (tgt := 121) hx hb d_TT_followsFromParts_6 (by decide) (by decide) ?_
    refine lv_iconst (v := nI 0) hx hb d_TT_followsFromParts_121 (by decide) ?_
    exact gc_retz (v := false) (post := fun r => r = mt_b (mt_in k a b (fun _ => false) t pp)) hx hb hr hlk (by simp [mt_in, hs6]) d_TT_followsFromParts_122
  · ---- 6=3
    refine mt_ri (y := nI 3) (by rw [hs6]) ?_
    refine lv_tableIn (off := 30) (tgt := 36) hx hb d_TT_followsFromParts_6 (by decide) (by decide) (by decide) (by decide) ?_
    have hab := hw1.2.1 (by omega) (by omega)
    refine lv_iload_n hx hb d_TT_followsFromParts_36 rfl (lv_at hl 2 rfl) ?_
    refine lv_aload_n hx hb d_TT_followsFromParts_37 rfl (lv_at hl 0 rfl) ?_
    refine va_get (D := g.1) (own := R_TT) (ref := R_TT) (ci := 1) (v := .ref (ad 3)) (C := R_TT) (T := F_TT) (N := 6) hx hb hts in_TT hown hG.1 hP 1 rfl rfl 1 (by decide) (hts _ wd_31) (fun _ h9 => h9) rfl d_TT_followsFromParts_38 ?_
    refine lv_iload_n hx hb d_TT_followsFromParts_41 rfl (lv_at hl 1 rfl) ?_
    refine va_iald hx hb hG.1 hP 3 0 rfl rfl (vp_in_nI (by omega) (by decide)) d_TT_followsFromParts_42 ?_
    refine mt_ri (y := nI (a t)) (by rw [nI_clamp (by omega)]; exact (hT _ (by omega)).2.1) ?_
    refine vp_callSi (va_runSN (own := R_TT) (As := [.int (nI pp), .int (nI (a t))]) (rest := []) ⟨hx, hb, hml, hown, hts⟩ (c_MT_holds (l := l) (g := g) (pp := pp) (t := a t) (by omega) (by omega)) ⟨va_cnB 2 hts (gx_good wd_187) rfl rfl rfl (hG.2.1 _ nw_13) (hts _ wd_1) (by decide +kernel) ⟨Nat.le_of_ble_eq_true rfl, Nat.le_of_ble_eq_true rfl⟩, hts _ wd_186, trivial⟩ (gc_preS (ws := []) (fun _ _ h => by cases h) hG) rfl rfl hl.1 rfl (lv_room (Nat.le_of_ble_eq_true rfl)) d_TT_followsFromParts_43 ⟨Nat.le_refl _, Nat.le_refl _⟩).run (fun r hr43 => ?_)
    subst hr43
    refine lv_if_ne (tgt := 62) hx hb d_TT_followsFromParts_46 (by decide) (mt_nz fun hc46 => ?_) (mt_z fun hc46 => ?_)
    · ---- 6=3 46T
      refine lv_iconst (v := nI 1) hx hb d_TT_followsFromParts_62 (by decide) ?_
      refine lv_goto (tgt := 67) hx hb d_TT_followsFromParts_63 (by decide) ?_
      exact gc_retz (v := true) (post := fun r => r = mt_b (mt_in k a b (fun _ => false) t pp)) hx hb hr hlk (by simp [mt_in, hs6, hc46]) d_TT_followsFromParts_67
    · ---- 6=3 46F
      refine lv_iload_n hx hb d_TT_followsFromParts_49 rfl (lv_at hl 2 rfl) ?_
      refine lv_aload_n hx hb d_TT_followsFromParts_50 rfl (lv_at hl 0 rfl) ?_
      refine va_get (D := g.1) (own := R_TT) (ref := R_TT) (ci := 1) (v := .ref (ad 4)) (C := R_TT) (T := F_TT) (N := 6) hx hb hts in_TT hown hG.1 hP 1 rfl rfl 2 (by decide) (hts _ wd_33) (fun _ h9 => h9) rfl d_TT_followsFromParts_51 ?_
      refine lv_iload_n hx hb d_TT_followsFromParts_54 rfl (lv_at hl 1 rfl) ?_
      refine va_iald hx hb hG.1 hP 4 0 rfl rfl (vp_in_nI (by omega) (by decide)) d_TT_followsFromParts_55 ?_
      refine mt_ri (y := nI (b t)) (by rw [nI_clamp (by omega)]; exact (hT _ (by omega)).2.2 (by omega)) ?_
      refine vp_callSi (va_runSN (own := R_TT) (As := [.int (nI pp), .int (nI (b t))]) (rest := []) ⟨hx, hb, hml, hown, hts⟩ (c_MT_holds (l := l) (g := g) (pp := pp) (t := b t) (by omega) (by omega)) ⟨va_cnB 2 hts (gx_good wd_187) rfl rfl rfl (hG.2.1 _ nw_13) (hts _ wd_1) (by decide +kernel) ⟨Nat.le_of_ble_eq_true rfl, Nat.le_of_ble_eq_true rfl⟩, hts _ wd_186, trivial⟩ (gc_preS (ws := []) (fun _ _ h => by cases h) hG) rfl rfl hl.1 rfl (lv_room (Nat.le_of_ble_eq_true rfl)) d_TT_followsFromParts_56 ⟨Nat.le_refl _, Nat.le_refl _⟩).run (fun r hr56 => ?_)
      subst hr56
      refine lv_if_eq (tgt := 66) hx hb d_TT_followsFromParts_59 (by decide) (mt_z fun hc59 => ?_) (mt_nz fun hc59 => ?_)
      · ---- 6=3 46F 59T
        refine lv_iconst (v := nI 0) hx hb d_TT_followsFromParts_66 (by decide) ?_
        exact gc_retz (v := false) (post := fun r => r = mt_b (mt_in k a b (fun _ => false) t pp)) hx hb hr hlk (by simp [mt_in, hs6, hc46, hc59]) d_TT_followsFromParts_67
      · ---- 6=3 46F 59F
        refine lv_iconst (v := nI 1) hx hb d_TT_followsFromParts_62 (by decide) ?_
        refine lv_goto (tgt := 67) hx hb d_TT_followsFromParts_63 (by decide) ?_
        exact gc_retz (v := true) (post := fun r => r = mt_b (mt_in k a b (fun _ => false) t pp)) hx hb hr hlk (by simp [mt_in, hs6, hc59]) d_TT_followsFromParts_67
  · ---- 6=4
    refine mt_ri (y := nI 4) (by rw [hs6]) ?_
    refine lv_tableIn (off := 62) (tgt := 68) hx hb d_TT_followsFromParts_6 (by decide) (by decide) (by decide) (by decide) ?_
    have hab := hw1.2.1 (by omega) (by omega)
    refine lv_iload_n hx hb d_TT_followsFromParts_68 rfl (lv_at hl 2 rfl) ?_
    refine lv_aload_n hx hb d_TT_followsFromParts_69 rfl (lv_at hl 0 rfl) ?_
    refine va_get (D := g.1) (own := R_TT) (ref := R_TT) (ci := 1) (v := .ref (ad 3)) (C := R_TT) (T := F_TT) (N := 6) hx hb hts in_TT hown hG.1 hP 1 rfl rfl 1 (by decide) (hts _ wd_31) (fun _ h9 => h9) rfl d_TT_followsFromParts_70 ?_
    refine lv_iload_n hx hb d_TT_followsFromParts_73 rfl (lv_at hl 1 rfl) ?_
    refine va_iald hx hb hG.1 hP 3 0 rfl rfl (vp_in_nI (by omega) (by decide)) d_TT_followsFromParts_74 ?_
    refine mt_ri (y := nI (a t)) (by rw [nI_clamp (by omega)]; exact (hT _ (by omega)).2.1) ?_
    refine vp_callSi (va_runSN (own := R_TT) (As := [.int (nI pp), .int (nI (a t))]) (rest := []) ⟨hx, hb, hml, hown, hts⟩ (c_MT_holds (l := l) (g := g) (pp := pp) (t := a t) (by omega) (by omega)) ⟨va_cnB 2 hts (gx_good wd_187) rfl rfl rfl (hG.2.1 _ nw_13) (hts _ wd_1) (by decide +kernel) ⟨Nat.le_of_ble_eq_true rfl, Nat.le_of_ble_eq_true rfl⟩, hts _ wd_186, trivial⟩ (gc_preS (ws := []) (fun _ _ h => by cases h) hG) rfl rfl hl.1 rfl (lv_room (Nat.le_of_ble_eq_true rfl)) d_TT_followsFromParts_75 ⟨Nat.le_refl _, Nat.le_refl _⟩).run (fun r hr75 => ?_)
    subst hr75
    refine lv_if_eq (tgt := 98) hx hb d_TT_followsFromParts_78 (by decide) (mt_z fun hc78 => ?_) (mt_nz fun hc78 => ?_)
    · ---- 6=4 78T
      refine lv_iconst (v := nI 0) hx hb d_TT_followsFromParts_98 (by decide) ?_
      exact gc_retz (v := false) (post := fun r => r = mt_b (mt_in k a b (fun _ => false) t pp)) hx hb hr hlk (by simp [mt_in, hs6, hc78]) d_TT_followsFromParts_99
    · ---- 6=4 78F
      refine lv_iload_n hx hb d_TT_followsFromParts_81 rfl (lv_at hl 2 rfl) ?_
      refine lv_aload_n hx hb d_TT_followsFromParts_82 rfl (lv_at hl 0 rfl) ?_
      refine va_get (D := g.1) (own := R_TT) (ref := R_TT) (ci := 1) (v := .ref (ad 4)) (C := R_TT) (T := F_TT) (N := 6) hx hb hts in_TT hown hG.1 hP 1 rfl rfl 2 (by decide) (hts _ wd_33) (fun _ h9 => h9) rfl d_TT_followsFromParts_83 ?_
      refine lv_iload_n hx hb d_TT_followsFromParts_86 rfl (lv_at hl 1 rfl) ?_
      refine va_iald hx hb hG.1 hP 4 0 rfl rfl (vp_in_nI (by omega) (by decide)) d_TT_followsFromParts_87 ?_
      refine mt_ri (y := nI (b t)) (by rw [nI_clamp (by omega)]; exact (hT _ (by omega)).2.2 (by omega)) ?_
      refine vp_callSi (va_runSN (own := R_TT) (As := [.int (nI pp), .int (nI (b t))]) (rest := []) ⟨hx, hb, hml, hown, hts⟩ (c_MT_holds (l := l) (g := g) (pp := pp) (t := b t) (by omega) (by omega)) ⟨va_cnB 2 hts (gx_good wd_187) rfl rfl rfl (hG.2.1 _ nw_13) (hts _ wd_1) (by decide +kernel) ⟨Nat.le_of_ble_eq_true rfl, Nat.le_of_ble_eq_true rfl⟩, hts _ wd_186, trivial⟩ (gc_preS (ws := []) (fun _ _ h => by cases h) hG) rfl rfl hl.1 rfl (lv_room (Nat.le_of_ble_eq_true rfl)) d_TT_followsFromParts_88 ⟨Nat.le_refl _, Nat.le_refl _⟩).run (fun r hr88 => ?_)
      subst hr88
      refine lv_if_eq (tgt := 98) hx hb d_TT_followsFromParts_91 (by decide) (mt_z fun hc91 => ?_) (mt_nz fun hc91 => ?_)
      · ---- 6=4 78F 91T
        refine lv_iconst (v := nI 0) hx hb d_TT_followsFromParts_98 (by decide) ?_
        exact gc_retz (v := false) (post := fun r => r = mt_b (mt_in k a b (fun _ => false) t pp)) hx hb hr hlk (by simp [mt_in, hs6, hc91]) d_TT_followsFromParts_99
      · ---- 6=4 78F 91F
        refine lv_iconst (v := nI 1) hx hb d_TT_followsFromParts_94 (by decide) ?_
        refine lv_goto (tgt := 99) hx hb d_TT_followsFromParts_95 (by decide) ?_
        exact gc_retz (v := true) (post := fun r => r = mt_b (mt_in k a b (fun _ => false) t pp)) hx hb hr hlk (by simp [mt_in, hs6, hc78, hc91]) d_TT_followsFromParts_99
  · ---- 6=5
    refine mt_ri (y := nI 5) (by rw [hs6]) ?_
    refine lv_tableIn (off := 94) (tgt := 100) hx hb d_TT_followsFromParts_6 (by decide) (by decide) (by decide) (by decide) ?_
    have hab := hw1.2.1 (by omega) (by omega)
    refine lv_iload_n hx hb d_TT_followsFromParts_100 rfl (lv_at hl 2 rfl) ?_
    refine lv_aload_n hx hb d_TT_followsFromParts_101 rfl (lv_at hl 0 rfl) ?_
    refine va_get (D := g.1) (own := R_TT) (ref := R_TT) (ci := 1) (v := .ref (ad 3)) (C := R_TT) (T := F_TT) (N := 6) hx hb hts in_TT hown hG.1 hP 1 rfl rfl 1 (by decide) (hts _ wd_31) (fun _ h9 => h9) rfl d_TT_followsFromParts_102 ?_
    refine lv_iload_n hx hb d_TT_followsFromParts_105 rfl (lv_at hl 1 rfl) ?_
    refine va_iald hx hb hG.1 hP 3 0 rfl rfl (vp_in_nI (by omega) (by decide)) d_TT_followsFromParts_106 ?_
    refine mt_ri (y := nI (a t)) (by rw [nI_clamp (by omega)]; exact (hT _ (by omega)).2.1) ?_
    refine vp_callSi (va_runSN (own := R_TT) (As := [.int (nI pp), .int (nI (a t))]) (rest := []) ⟨hx, hb, hml, hown, hts⟩ (c_MT_holds (l := l) (g := g) (pp := pp) (t := a t) (by omega) (by omega)) ⟨va_cnB 2 hts (gx_good wd_187) rfl rfl rfl (hG.2.1 _ nw_13) (hts _ wd_1) (by decide +kernel) ⟨Nat.le_of_ble_eq_true rfl, Nat.le_of_ble_eq_true rfl⟩, hts _ wd_186, trivial⟩ (gc_preS (ws := []) (fun _ _ h => by cases h) hG) rfl rfl hl.1 rfl (lv_room (Nat.le_of_ble_eq_true rfl)) d_TT_followsFromParts_107 ⟨Nat.le_refl _, Nat.le_refl _⟩).run (fun r hr107 => ?_)
    subst hr107
    refine lv_if_ne (tgt := 117) hx hb d_TT_followsFromParts_110 (by decide) (mt_nz fun hc110 => ?_) (mt_z fun hc110 => ?_)
    · ---- 6=5 110T
      refine lv_iconst (v := nI 0) hx hb d_TT_followsFromParts_117 (by decide) ?_
      exact gc_retz (v := false) (post := fun r => r = mt_b (mt_in k a b (fun _ => false) t pp)) hx hb hr hlk (by simp [mt_in, hs6, hc110]) d_TT_followsFromParts_118
    · ---- 6=5 110F
      refine lv_iconst (v := nI 1) hx hb d_TT_followsFromParts_113 (by decide) ?_
      refine lv_goto (tgt := 118) hx hb d_TT_followsFromParts_114 (by decide) ?_
      exact gc_retz (v := true) (post := fun r => r = mt_b (mt_in k a b (fun _ => false) t pp)) hx hb hr hlk (by simp [mt_in, hs6, hc110]) d_TT_followsFromParts_118
  · ---- 6=6
    refine mt_ri (y := nI 6) (by rw [hs6]) ?_
    refine lv_tableIn (off := 113) (tgt := 119) hx hb d_TT_followsFromParts_6 (by decide) (by decide) (by decide) (by decide) ?_
    refine lv_iconst (v := nI 1) hx hb d_TT_followsFromParts_119 (by decide) ?_
    exact gc_retz (v := true) (post := fun r => r = mt_b (mt_in k a b (fun _ => false) t pp)) hx hb hr hlk (by simp [mt_in, hs6]) d_TT_followsFromParts_120

set_option maxHeartbeats 4000000 in
set_option maxRecDepth 100000 in
theorem c_TT_profileFrom {g : gG} {ad so sw : Nat → Nat} {I : Nat → Nat → Int32} {n v : Nat} {us : Nat → Nat} {ct : Nat → Nat → Int64}{k a b : Nat → Nat} {ro : Nat} {rr : Nat → Bool} {l : Launch} (hT : mt_TR I n k a b) (hn : n ≤ 13) (hw : mt_wf k a b n) (hro : ro < 2 ^ n) (hr1 : ∀ t, t < n → k t ≤ 2 → rr t = ro.testBit t) (hr2 : ∀ t, t < n → 3 ≤ k t → ro.testBit t = false) :
    gc_RO l y_TT_profileFrom (gx_ws y_TT_profileFrom b_TT_profileFrom 4 (some .int)) 2 43 g [.ref (ad 1), .int (nI ro)] (cW g ad so sw I n v us ct) (fun r => r = nI (mt_pf k a b rr n)) := by
  refine gx_body (by decide) (Nat.le_of_ble_eq_true rfl) ?_
  intro p e s m below meth c ls hAt hB hl
  obtain ⟨hx, hb, hml, hown, hts, hr, hlk, hnm⟩ := hAt
  have hown : s.vm.findClass R_TT = some m.cls := hown
  obtain ⟨hP, hG⟩ := hB
  have hl : lv_has ls 4 [(0, .ref (ad 1)), (1, .int (nI ro))] := hl
  refine lv_iload_n hx hb d_TT_profileFrom_0 rfl (lv_at hl 1 rfl) ?_
  refine lv_istore_n (lv' := [(2, .int (nI ro)), (0, .ref (ad 1)), (1, .int (nI ro))]) hx hb d_TT_profileFrom_1 rfl hl (by decide) rfl (fun ls hl => ?_)
  refine lv_iconst (v := nI 0) hx hb d_TT_profileFrom_2 (by decide) ?_
  refine lv_istore_n (lv' := [(3, .int (nI 0)), (2, .int (nI ro)), (0, .ref (ad 1)), (1, .int (nI ro))]) hx hb d_TT_profileFrom_3 rfl hl (by decide) rfl (fun ls hl => ?_)
  have lp4 : ∀ (d : Nat) (i : Nat) (x : Nat) (ls : Array Slot), d = n - i → (i ≤ n) → (mt_up k a b rr ro i x) → lv_has ls 4 [(3, .int (nI i)), (2, .int (nI x)), (0, .ref (ad 1)), (1, .int (nI ro))] → W p l e (gx_rm 2 43) s m ([.ref (ad 1), .int (nI ro)] : List Value).toArray below meth c s.heap [] 0 0 (MQ below (vp_Si (fun r => r = nI (mt_pf k a b rr n))) ([.ref (ad 1), .int (nI ro)] : List Value).toArray s 0 0 (fun _ => False)) (F0 m 4 ls []) := by
    intro d
    induction d using Nat.strongRecOn with
    | ind d ih4 =>
    intro i x ls hd hi hxm hl
    refine lv_iload_n hx hb d_TT_profileFrom_4 rfl (lv_at hl 0 rfl) ?_
    refine lv_aload_n hx hb d_TT_profileFrom_5 rfl (lv_at hl 2 rfl) ?_
    refine va_get (D := g.1) (own := R_TT) (ref := R_TT) (ci := 1) (v := .int (nI n)) (C := R_TT) (T := F_TT) (N := 6) hx hb hts in_TT hown hG.1 hP 1 rfl rfl 5 (by decide) (hts _ wd_39) (fun _ h9 => h9) rfl d_TT_profileFrom_6 ?_
    refine lv_icmp_ge (tgt := 33) hx hb d_TT_profileFrom_9 (by decide) (mt_le (by omega) (by omega) fun hc9 => ?_) (mt_nle (by omega) (by omega) fun hc9 => ?_)
    · ---- 9T
      refine lv_iload_n hx hb d_TT_profileFrom_33 rfl (lv_at hl 1 rfl) ?_
      exact gc_reti (post := fun r => r = nI (mt_pf k a b rr n)) hx hb hr hlk (by rw [show i = n by omega] at hxm; rw [mt_up_e hxm hro]) d_TT_profileFrom_34
    · ---- 9F
      have hx13 := mt_lt13 (mt_up_lt hxm hi hro) hn
      refine lv_aload_n hx hb d_TT_profileFrom_12 rfl (lv_at hl 2 rfl) ?_
      refine lv_iload_n hx hb d_TT_profileFrom_13 rfl (lv_at hl 0 rfl) ?_
      refine lv_iload_n hx hb d_TT_profileFrom_14 rfl (lv_at hl 1 rfl) ?_
      refine vp_callSi (va_runV (own := R_TT) (As := [.int (nI i), .int (nI x)]) (rest := []) ⟨hx, hb, hml, hown, hts⟩ (c_TT_followsFromParts (l := l) (g := g) (ad := ad) (so := so) (sw := sw) (I := I) (n := n) (v := v) (us := us) (ct := ct) (k := k) (a := a) (b := b) (t := i) (pp := x) hT hn hw (by omega) (by omega)) (cwV 2 hts (gx_goodV wd_192 wd_194 ws_2 wd_3 wd_195) rfl rfl rfl (by decide +kernel) ⟨Nat.le_of_ble_eq_true rfl, Nat.le_of_ble_eq_true rfl⟩) (gc_preV (gc_recv hP hG (ci := 1) rfl (q0 := 1) rfl) hP hG) rfl rfl hl.1 rfl (lv_room (Nat.le_of_ble_eq_true rfl)) d_TT_profileFrom_15 ⟨Nat.le_refl _, Nat.le_refl _⟩).run (fun r hr15 => ?_)
      subst hr15
      refine lv_if_eq (tgt := 27) hx hb d_TT_profileFrom_18 (by decide) (mt_z fun hc18 => ?_) (mt_nz fun hc18 => ?_)
      · ---- 9F 18T
        refine lv_iinc (k := 0) (v := nI (i + 1)) (lv' := [(3, .int (nI (i + 1))), (2, .int (nI x)), (0, .ref (ad 1)), (1, .int (nI ro))]) hx hb d_TT_profileFrom_27 hl rfl (by rw [lit1]; exact nI_1 _) (by decide) rfl (fun ls hl => ?_)
        refine lv_goto (tgt := 4) hx hb d_TT_profileFrom_30 (by decide) ?_
        exact ih4 _ (by omega) (i + 1) x ls rfl (by omega) (mt_up_f hw (by omega) hxm (hr1 i (by omega)) (hr2 i (by omega)) hc18) (lv_sub hl [0, 1, 2, 3] rfl)
      · ---- 9F 18F
        refine lv_iload_n hx hb d_TT_profileFrom_21 rfl (lv_at hl 1 rfl) ?_
        refine lv_iconst (v := nI 1) hx hb d_TT_profileFrom_22 (by decide) ?_
        refine lv_iload_n hx hb d_TT_profileFrom_23 rfl (lv_at hl 0 rfl) ?_
        refine lv_ishl hx hb d_TT_profileFrom_24 ?_
        refine mt_ri (y := nI (2 ^ i)) (mt_shl (by omega)) ?_
        refine lv_ior hx hb d_TT_profileFrom_25 ?_
        refine mt_ri (y := nI (x ||| (2 ^ i))) (mt_or _ _) ?_
        refine lv_istore_n (lv' := [(2, .int (nI (x ||| (2 ^ i)))), (3, .int (nI i)), (0, .ref (ad 1)), (1, .int (nI ro))]) hx hb d_TT_profileFrom_26 rfl hl (by decide) rfl (fun ls hl => ?_)
        refine lv_iinc (k := 1) (v := nI (i + 1)) (lv' := [(3, .int (nI (i + 1))), (2, .int (nI (x ||| (2 ^ i)))), (0, .ref (ad 1)), (1, .int (nI ro))]) hx hb d_TT_profileFrom_27 hl rfl (by rw [lit1]; exact nI_1 _) (by decide) rfl (fun ls hl => ?_)
        refine lv_goto (tgt := 4) hx hb d_TT_profileFrom_30 (by decide) ?_
        exact ih4 _ (by omega) (i + 1) (x ||| (2 ^ i)) ls rfl (by omega) (mt_up_t hw (by omega) hxm (hr1 i (by omega)) (hr2 i (by omega)) hc18) (lv_sub hl [0, 1, 2, 3] rfl)
  exact lp4 _ 0 ro ls rfl (Nat.zero_le _) (mt_up_0) (lv_sub hl [0, 1, 2, 3] rfl)

set_option maxHeartbeats 4000000 in
set_option maxRecDepth 100000 in
theorem c_TT_profileOfConstant {g : gG} {ad so sw : Nat → Nat} {I : Nat → Nat → Int32} {n v : Nat} {us : Nat → Nat} {ct : Nat → Nat → Int64}{k a b : Nat → Nat} {cc0 : Nat} {l : Launch} (hT : mt_TR I n k a b) (hn : n ≤ 13) (hw : mt_wf k a b n) (hc6 : cc0 < 6) :
    gc_RO l y_TT_profileOfConstant (gx_ws y_TT_profileOfConstant b_TT_profileOfConstant 4 (some .int)) 3 66 g [.ref (ad 1), .int (nI cc0)] (cW g ad so sw I n v us ct) (fun r => r = nI (mt_pf k a b (mt_rc k a cc0) n)) := by
  refine gx_body (by decide) (Nat.le_of_ble_eq_true rfl) ?_
  intro p e s m below meth c ls hAt hB hl
  obtain ⟨hx, hb, hml, hown, hts, hr, hlk, hnm⟩ := hAt
  have hown : s.vm.findClass R_TT = some m.cls := hown
  obtain ⟨hP, hG⟩ := hB
  have hl : lv_has ls 4 [(0, .ref (ad 1)), (1, .int (nI cc0))] := hl
  refine lv_iconst (v := nI 0) hx hb d_TT_profileOfConstant_0 (by decide) ?_
  refine lv_istore_n (lv' := [(2, .int (nI 0)), (0, .ref (ad 1)), (1, .int (nI cc0))]) hx hb d_TT_profileOfConstant_1 rfl hl (by decide) rfl (fun ls hl => ?_)
  refine lv_iconst (v := nI 0) hx hb d_TT_profileOfConstant_2 (by decide) ?_
  refine lv_istore_n (lv' := [(3, .int (nI 0)), (2, .int (nI 0)), (0, .ref (ad 1)), (1, .int (nI cc0))]) hx hb d_TT_profileOfConstant_3 rfl hl (by decide) rfl (fun ls hl => ?_)
  have lp4 : ∀ (d : Nat) (i : Nat) (x : Nat) (ls : Array Slot), d = n - i → (i ≤ n) → (x = mt_ma (mt_rc k a cc0) i) → lv_has ls 4 [(3, .int (nI i)), (2, .int (nI x)), (0, .ref (ad 1)), (1, .int (nI cc0))] → W p l e (gx_rm 3 66) s m ([.ref (ad 1), .int (nI cc0)] : List Value).toArray below meth c s.heap [] 0 0 (MQ below (vp_Si (fun r => r = nI (mt_pf k a b (mt_rc k a cc0) n))) ([.ref (ad 1), .int (nI cc0)] : List Value).toArray s 0 0 (fun _ => False)) (F0 m 4 ls []) := by
    intro d
    induction d using Nat.strongRecOn with
    | ind d ih4 =>
    intro i x ls hd hi hxm hl
    refine lv_iload_n hx hb d_TT_profileOfConstant_4 rfl (lv_at hl 0 rfl) ?_
    refine lv_aload_n hx hb d_TT_profileOfConstant_5 rfl (lv_at hl 2 rfl) ?_
    refine va_get (D := g.1) (own := R_TT) (ref := R_TT) (ci := 1) (v := .int (nI n)) (C := R_TT) (T := F_TT) (N := 6) hx hb hts in_TT hown hG.1 hP 1 rfl rfl 5 (by decide) (hts _ wd_39) (fun _ h9 => h9) rfl d_TT_profileOfConstant_6 ?_
    refine lv_icmp_ge (tgt := 46) hx hb d_TT_profileOfConstant_9 (by decide) (mt_le (by omega) (by omega) fun hc9 => ?_) (mt_nle (by omega) (by omega) fun hc9 => ?_)
    · ---- 9T
      refine lv_aload_n hx hb d_TT_profileOfConstant_46 rfl (lv_at hl 2 rfl) ?_
      refine lv_iload_n hx hb d_TT_profileOfConstant_47 rfl (lv_at hl 1 rfl) ?_
      refine vp_callSi (va_runV (own := R_TT) (As := [.int (nI x)]) (rest := []) ⟨hx, hb, hml, hown, hts⟩ (c_TT_profileFrom (l := l) (g := g) (ad := ad) (so := so) (sw := sw) (I := I) (n := n) (v := v) (us := us) (ct := ct) (k := k) (a := a) (b := b) (ro := x) (rr := mt_rc k a cc0) hT hn hw (by rw [hxm, show i = n by omega]; exact mt_ma_lt _ _) (fun t ht _ => by rw [hxm, mt_ma_bit, show i = n by omega]; simp [ht]) (fun t ht h3 => by rw [hxm, mt_ma_bit]; have h4 : (k t == 0) = false := beq_eq_false_iff_ne.mpr (by omega); simp [mt_rc, h4])) (cwV 1 hts (gx_goodV wd_188 wd_189 wd_190 wd_3 wd_191) rfl rfl rfl (by decide +kernel) ⟨Nat.le_of_ble_eq_true rfl, Nat.le_of_ble_eq_true rfl⟩) (gc_preV (gc_recv hP hG (ci := 1) rfl (q0 := 1) rfl) hP hG) rfl rfl hl.1 rfl (lv_room (Nat.le_of_ble_eq_true rfl)) d_TT_profileOfConstant_48 ⟨Nat.le_refl _, Nat.le_refl _⟩).run (fun r hr48 => ?_)
      subst hr48
      exact gc_reti (post := fun r => r = nI (mt_pf k a b (mt_rc k a cc0) n)) hx hb hr hlk (rfl) d_TT_profileOfConstant_51
    · ---- 9F
      have hw1 := hw i (by omega)
      refine lv_aload_n hx hb d_TT_profileOfConstant_12 rfl (lv_at hl 2 rfl) ?_
      refine va_get (D := g.1) (own := R_TT) (ref := R_TT) (ci := 1) (v := .ref (ad 2)) (C := R_TT) (T := F_TT) (N := 6) hx hb hts in_TT hown hG.1 hP 1 rfl rfl 0 (by decide) (hts _ wd_30) (fun _ h9 => h9) rfl d_TT_profileOfConstant_13 ?_
      refine lv_iload_n hx hb d_TT_profileOfConstant_16 rfl (lv_at hl 0 rfl) ?_
      refine va_iald hx hb hG.1 hP 2 0 rfl rfl (vp_in_nI (by omega) (by decide)) d_TT_profileOfConstant_17 ?_
      refine mt_ri (y := nI (k i)) (by rw [nI_clamp (by omega)]; exact (hT _ (by omega)).1) ?_
      refine lv_if_ne (tgt := 40) hx hb d_TT_profileOfConstant_18 (by decide) (mt_ne (b := 0) (by omega) (by decide) fun hc18 => ?_) (mt_eq (b := 0) (by omega) (by decide) fun hc18 => ?_)
      · ---- 9F 18T
        refine lv_iinc (k := 0) (v := nI (i + 1)) (lv' := [(3, .int (nI (i + 1))), (2, .int (nI x)), (0, .ref (ad 1)), (1, .int (nI cc0))]) hx hb d_TT_profileOfConstant_40 hl rfl (by rw [lit1]; exact nI_1 _) (by decide) rfl (fun ls hl => ?_)
        refine lv_goto (tgt := 4) hx hb d_TT_profileOfConstant_43 (by decide) ?_
        exact ih4 _ (by omega) (i + 1) x ls rfl (by omega) (by rw [hxm]; exact mt_ma_f (by simp [mt_rc, hc18])) (lv_sub hl [0, 1, 2, 3] rfl)
      · ---- 9F 18F
        refine lv_aload_n hx hb d_TT_profileOfConstant_21 rfl (lv_at hl 2 rfl) ?_
        refine va_get (D := g.1) (own := R_TT) (ref := R_TT) (ci := 1) (v := .ref (ad 3)) (C := R_TT) (T := F_TT) (N := 6) hx hb hts in_TT hown hG.1 hP 1 rfl rfl 1 (by decide) (hts _ wd_31) (fun _ h9 => h9) rfl d_TT_profileOfConstant_22 ?_
        refine lv_iload_n hx hb d_TT_profileOfConstant_25 rfl (lv_at hl 0 rfl) ?_
        refine va_iald hx hb hG.1 hP 3 0 rfl rfl (vp_in_nI (by omega) (by decide)) d_TT_profileOfConstant_26 ?_
        refine mt_ri (y := nI (a i)) (by rw [nI_clamp (by omega)]; exact (hT _ (by omega)).2.1) ?_
        refine lv_iload_n hx hb d_TT_profileOfConstant_27 rfl (lv_at hl 3 rfl) ?_
        refine vp_callSi (va_runSN (own := R_TT) (As := [.int (nI (a i)), .int (nI cc0)]) (rest := []) ⟨hx, hb, hml, hown, hts⟩ (c_MT_holds (l := l) (g := g) (pp := a i) (t := cc0) (by omega) (by omega)) ⟨va_cnB 2 hts (gx_good wd_187) rfl rfl rfl (hG.2.1 _ nw_13) (hts _ wd_1) (by decide +kernel) ⟨Nat.le_of_ble_eq_true rfl, Nat.le_of_ble_eq_true rfl⟩, hts _ wd_186, trivial⟩ (gc_preS (ws := []) (fun _ _ h => by cases h) hG) rfl rfl hl.1 rfl (lv_room (Nat.le_of_ble_eq_true rfl)) d_TT_profileOfConstant_28 ⟨Nat.le_refl _, Nat.le_refl _⟩).run (fun r hr28 => ?_)
        subst hr28
        refine lv_if_eq (tgt := 40) hx hb d_TT_profileOfConstant_31 (by decide) (mt_z fun hc31 => ?_) (mt_nz fun hc31 => ?_)
        · ---- 9F 18F 31T
          refine lv_iinc (k := 0) (v := nI (i + 1)) (lv' := [(3, .int (nI (i + 1))), (2, .int (nI x)), (0, .ref (ad 1)), (1, .int (nI cc0))]) hx hb d_TT_profileOfConstant_40 hl rfl (by rw [lit1]; exact nI_1 _) (by decide) rfl (fun ls hl => ?_)
          refine lv_goto (tgt := 4) hx hb d_TT_profileOfConstant_43 (by decide) ?_
          exact ih4 _ (by omega) (i + 1) x ls rfl (by omega) (by rw [hxm]; exact mt_ma_f (by simp [mt_rc, hc31])) (lv_sub hl [0, 1, 2, 3] rfl)
        · ---- 9F 18F 31F
          refine lv_iload_n hx hb d_TT_profileOfConstant_34 rfl (lv_at hl 1 rfl) ?_
          refine lv_iconst (v := nI 1) hx hb d_TT_profileOfConstant_35 (by decide) ?_
          refine lv_iload_n hx hb d_TT_profileOfConstant_36 rfl (lv_at hl 0 rfl) ?_
          refine lv_ishl hx hb d_TT_profileOfConstant_37 ?_
          refine mt_ri (y := nI (2 ^ i)) (mt_shl (by omega)) ?_
          refine lv_ior hx hb d_TT_profileOfConstant_38 ?_
          refine mt_ri (y := nI (x ||| (2 ^ i))) (mt_or _ _) ?_
          refine lv_istore_n (lv' := [(2, .int (nI (x ||| (2 ^ i)))), (3, .int (nI i)), (0, .ref (ad 1)), (1, .int (nI cc0))]) hx hb d_TT_profileOfConstant_39 rfl hl (by decide) rfl (fun ls hl => ?_)
          refine lv_iinc (k := 1) (v := nI (i + 1)) (lv' := [(3, .int (nI (i + 1))), (2, .int (nI (x ||| (2 ^ i)))), (0, .ref (ad 1)), (1, .int (nI cc0))]) hx hb d_TT_profileOfConstant_40 hl rfl (by rw [lit1]; exact nI_1 _) (by decide) rfl (fun ls hl => ?_)
          refine lv_goto (tgt := 4) hx hb d_TT_profileOfConstant_43 (by decide) ?_
          exact ih4 _ (by omega) (i + 1) (x ||| (2 ^ i)) ls rfl (by omega) (by rw [hxm]; exact mt_ma_t (by simp [mt_rc, hc18, hc31])) (lv_sub hl [0, 1, 2, 3] rfl)
  exact lp4 _ 0 0 ls rfl (Nat.zero_le _) (rfl) (lv_sub hl [0, 1, 2, 3] rfl)
