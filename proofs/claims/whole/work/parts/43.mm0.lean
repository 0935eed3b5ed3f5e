set_option maxHeartbeats 4000000 in
set_option maxRecDepth 100000 in
theorem c_MM_has {g : gG} {md : Nat → Nat} {J : Nat → Nat → Int32} {n v kn pr ar : Nat} {X : Nat → Int64} {s0 cc i : Nat} {l : Launch} (hs : s0 = 128 * cc) (hcc : cc < 27) (hi : i < 8192) :
    gc_RO l y_MM_has (gx_ws y_MM_has b_MM_has 3 (some .boolean)) 0 0 g [.ref (md 0), .int (nI s0), .int (nI i)] (mW g md J n v kn pr ar X) (fun r => r = mt_b (mt_ms X cc i)) := by
  refine gx_body (by decide) (Nat.le_of_ble_eq_true rfl) ?_
  intro p e s m below meth c ls hAt hB hl
  obtain ⟨hx, hb, hml, hown, hts, hr, hlk, hnm⟩ := hAt
  have hown : s.vm.findClass R_MM = some m.cls := hown
  obtain ⟨hP, hG⟩ := hB
  have hl : lv_has ls 3 [(0, .ref (md 0)), (1, .int (nI s0)), (2, .int (nI i))] := hl
  refine lv_aload_n hx hb d_MM_has_0 rfl (lv_at hl 0 rfl) ?_
  refine va_get (D := g.1) (own := R_MM) (ref := R_MM) (ci := 5) (v := .ref (md 10)) (C := R_MM) (T := F_MM) (N := 16) hx hb hts in_MM hown hG.1 hP 0 rfl rfl 11 (by decide) (hts _ wd_394) (fun _ h9 => h9) rfl d_MM_has_1 ?_
  refine lv_iload_n hx hb d_MM_has_4 rfl (lv_at hl 1 rfl) ?_
  refine lv_iload_n hx hb d_MM_has_5 rfl (lv_at hl 2 rfl) ?_
  refine lv_bipush (v := nI 64) hx hb d_MM_has_6 (by decide) ?_
  refine lv_idiv hx hb d_MM_has_8 (by decide) ?_
  refine mt_ri (y := nI (i / 64)) (pk_div (by omega) (by decide) (by decide)) ?_
  refine lv_iadd hx hb d_MM_has_9 ?_
  refine mt_ri (y := nI (s0 + (i / 64))) (nI_add _ _) ?_
  refine va_lald hx hb hG.1 hP 10 2 rfl rfl (vp_in_nI (by omega) (by decide)) d_MM_has_10 ?_
  refine mt_rl (y := X (s0 + (i / 64))) (by rw [nI_clamp (by omega)]) ?_
  refine lv_iload_n hx hb d_MM_has_11 rfl (lv_at hl 2 rfl) ?_
  refine lv_bipush (v := nI 64) hx hb d_MM_has_12 (by decide) ?_
  refine lv_irem hx hb d_MM_has_14 (by decide) ?_
  refine mt_ri (y := nI (i % 64)) (pk_rem (by omega) (by decide) (by decide)) ?_
  refine lv_lshr (v := (X (s0 + (i / 64))) >>> ((nI (i % 64)).toInt64 &&& 63)) hx hb d_MM_has_15 rfl ?_
  refine lv_lconst (v := 1) hx hb d_MM_has_16 (by decide) ?_
  refine lv_land hx hb d_MM_has_17 ?_
  refine mt_rl (y := if mt_lb (X (s0 + i / 64)) (i % 64) then 1 else 0) (mt_lb_shr (Nat.mod_lt _ (by decide)) _) ?_
  refine lv_lconst (v := 1) hx hb d_MM_has_18 (by decide) ?_
  refine W.lcmp hx hb d_MM_has_19 ?_
  refine lv_if_ne (tgt := 27) hx hb d_MM_has_20 (by decide) (mt_nc0 fun hc20 => ?_) (mt_c0 fun hc20 => ?_)
  · ---- 20T
    refine lv_iconst (v := nI 0) hx hb d_MM_has_27 (by decide) ?_
    exact gc_retz (v := false) (post := fun r => r = mt_b (mt_ms X cc i)) hx hb hr hlk (by rw [show mt_ms X cc i = false from mt_ms_f hs hc20]) d_MM_has_28
  · ---- 20F
    refine lv_iconst (v := nI 1) hx hb d_MM_has_23 (by decide) ?_
    refine lv_goto (tgt := 28) hx hb d_MM_has_24 (by decide) ?_
    exact gc_retz (v := true) (post := fun r => r = mt_b (mt_ms X cc i)) hx hb hr hlk (by rw [show mt_ms X cc i = true from mt_ms_t hs hc20]) d_MM_has_28

set_option maxHeartbeats 4000000 in
set_option maxRecDepth 100000 in
theorem c_MM_put {g : gG} {md : Nat → Nat} {J : Nat → Nat → Int32} {n v kn pr ar : Nat} {X : Nat → Int64} {s0 cc i : Nat} {l : Launch} (hs : s0 = 128 * cc) (hcc : cc < 27) (hi : i < 8192) :
    gc_RW (S := Nat → Int64) l y_MM_put (gx_ws y_MM_put b_MM_put 4 (some .boolean)) 1 22 g [.ref (md 0), .int (nI s0), .int (nI i)] (mW g md J n v kn pr ar X) (fun (u : Nat → Int64) => mW g md J n v kn pr ar u) (fun r (u : Nat → Int64) => r = mt_b (!mt_ms X cc i) ∧ mt_pt X u cc i) := by
  refine gx_body (by decide) (Nat.le_of_ble_eq_true rfl) ?_
  intro p e s m below meth c ls hAt hB hl
  obtain ⟨hx, hb, hml, hown, hts, hr, hlk, hnm⟩ := hAt
  have hown : s.vm.findClass R_MM = some m.cls := hown
  obtain ⟨⟨hP, hG⟩, hD0⟩ := hB
  have hD := gx_D.self hD0
  have hS : va_S (gx_in (mW g md J n v kn pr ar X)) s.heap s.heap [] := va_S.rf
  have hl : lv_has ls 4 [(0, .ref (md 0)), (1, .int (nI s0)), (2, .int (nI i))] := hl
  refine lv_aload_n hx hb d_MM_put_0 rfl (lv_at hl 0 rfl) ?_
  refine lv_iload_n hx hb d_MM_put_1 rfl (lv_at hl 1 rfl) ?_
  refine lv_iload_n hx hb d_MM_put_2 rfl (lv_at hl 2 rfl) ?_
  refine vp_callSi (va_runV (own := R_MM) (As := [.int (nI s0), .int (nI i)]) (rest := []) ⟨hx, hb, hml, hown, hts⟩ (c_MM_has (l := l) (g := g) (md := md) (J := J) (n := n) (v := v) (kn := kn) (pr := pr) (ar := ar) (X := X) (s0 := s0) (cc := cc) (i := i) (by omega) (by omega) (by omega)) (cwV 2 hts (gx_goodV wd_500 wd_502 ws_20 wd_7 wd_503) rfl rfl rfl (by decide +kernel) ⟨Nat.le_of_ble_eq_true rfl, Nat.le_of_ble_eq_true rfl⟩) (gc_preV (gc_recv hP hG (ci := 5) rfl (q0 := 0) rfl) hP hG) rfl rfl hl.1 rfl (lv_room (Nat.le_of_ble_eq_true rfl)) d_MM_put_3 ⟨Nat.le_refl _, Nat.le_refl _⟩).run (fun r hr3 => ?_)
  subst hr3
  refine lv_if_ne (tgt := 13) hx hb d_MM_put_6 (by decide) (mt_nz fun hc6 => ?_) (mt_z fun hc6 => ?_)
  · ---- 6T
    refine lv_iconst (v := nI 0) hx hb d_MM_put_13 (by decide) ?_
    refine mt_ri (y := mt_b false) rfl ?_
    refine lv_istore_n (lv' := [(3, .int (mt_b false)), (0, .ref (md 0)), (1, .int (nI s0)), (2, .int (nI i))]) hx hb d_MM_put_14 rfl hl (by decide) rfl (fun ls hl => ?_)
    refine lv_aload_n hx hb d_MM_put_15 rfl (lv_at hl 1 rfl) ?_
    refine va_get (D := g.1) (own := R_MM) (ref := R_MM) (ci := 5) (v := .ref (md 10)) (C := R_MM) (T := F_MM) (N := 16) hx hb hts in_MM hown hG.1 hP 0 rfl rfl 11 (by decide) (hts _ wd_394) (fun _ h9 => h9) rfl d_MM_put_16 ?_
    refine lv_iload_n hx hb d_MM_put_19 rfl (lv_at hl 2 rfl) ?_
    refine lv_iload_n hx hb d_MM_put_20 rfl (lv_at hl 3 rfl) ?_
    refine lv_bipush (v := nI 64) hx hb d_MM_put_21 (by decide) ?_
    refine lv_idiv hx hb d_MM_put_23 (by decide) ?_
    refine mt_ri (y := nI (i / 64)) (pk_div (by omega) (by decide) (by decide)) ?_
    refine lv_iadd hx hb d_MM_put_24 ?_
    refine mt_ri (y := nI (s0 + (i / 64))) (nI_add _ _) ?_
    refine lv_aload_n hx hb d_MM_put_25 rfl (lv_at hl 1 rfl) ?_
    refine va_get (D := g.1) (own := R_MM) (ref := R_MM) (ci := 5) (v := .ref (md 10)) (C := R_MM) (T := F_MM) (N := 16) hx hb hts in_MM hown hG.1 hP 0 rfl rfl 11 (by decide) (hts _ wd_394) (fun _ h9 => h9) rfl d_MM_put_26 ?_
    refine lv_iload_n hx hb d_MM_put_29 rfl (lv_at hl 2 rfl) ?_
    refine lv_iload_n hx hb d_MM_put_30 rfl (lv_at hl 3 rfl) ?_
    refine lv_bipush (v := nI 64) hx hb d_MM_put_31 (by decide) ?_
    refine lv_idiv hx hb d_MM_put_33 (by decide) ?_
    refine mt_ri (y := nI (i / 64)) (pk_div (by omega) (by decide) (by decide)) ?_
    refine lv_iadd hx hb d_MM_put_34 ?_
    refine mt_ri (y := nI (s0 + (i / 64))) (nI_add _ _) ?_
    refine va_lald hx hb hG.1 hP 10 2 rfl rfl (vp_in_nI (by omega) (by decide)) d_MM_put_35 ?_
    refine mt_rl (y := X (s0 + (i / 64))) (by rw [nI_clamp (by omega)]) ?_
    refine lv_lconst (v := 1) hx hb d_MM_put_36 (by decide) ?_
    refine lv_iload_n hx hb d_MM_put_37 rfl (lv_at hl 3 rfl) ?_
    refine lv_bipush (v := nI 64) hx hb d_MM_put_38 (by decide) ?_
    refine lv_irem hx hb d_MM_put_40 (by decide) ?_
    refine mt_ri (y := nI (i % 64)) (pk_rem (by omega) (by decide) (by decide)) ?_
    refine lv_lshl (v := 1 <<< ((nI (i % 64)).toInt64 &&& 63)) hx hb d_MM_put_41 rfl ?_
    refine lv_lor hx hb d_MM_put_42 ?_
    refine va_last hx hb hG.1 hP hD hS 10 2 rfl rfl (vp_in_nI (by omega) (by decide)) d_MM_put_43 (fun H locs hP hD hS => ?_)
    rw [nI_clamp (by omega)] at hP hD
    have hP : va_P g.1 gx_cl (mW g md J n v kn pr ar (vp_updL X (s0 + (i / 64)) ((X (s0 + (i / 64))) ||| (1 <<< ((nI (i % 64)).toInt64 &&& 63))))) H := hP
    have hD : va_D (gx_in (mW g md J n v kn pr ar X)) (mW g md J n v kn pr ar (vp_updL X (s0 + (i / 64)) ((X (s0 + (i / 64))) ||| (1 <<< ((nI (i % 64)).toInt64 &&& 63))))) := hD
    refine lv_iload_n hx hb d_MM_put_44 rfl (lv_at hl 0 rfl) ?_
    exact gc_retwz (u := (vp_updL X (s0 + (i / 64)) ((X (s0 + (i / 64))) ||| (1 <<< ((nI (i % 64)).toInt64 &&& 63))))) (v := false) (Wf := fun (u : Nat → Int64) => mW g md J n v kn pr ar u) (post := fun r (u : Nat → Int64) => r = mt_b (!mt_ms X cc i) ∧ mt_pt X u cc i) hx hb hr hlk (⟨by rw [hc6]; rfl, mt_pt_of hs hi⟩) hP hD hS d_MM_put_45
  · ---- 6F
    refine lv_iconst (v := nI 1) hx hb d_MM_put_9 (by decide) ?_
    refine lv_goto (tgt := 14) hx hb d_MM_put_10 (by decide) ?_
    refine mt_ri (y := mt_b true) rfl ?_
    refine lv_istore_n (lv' := [(3, .int (mt_b true)), (0, .ref (md 0)), (1, .int (nI s0)), (2, .int (nI i))]) hx hb d_MM_put_14 rfl hl (by decide) rfl (fun ls hl => ?_)
    refine lv_aload_n hx hb d_MM_put_15 rfl (lv_at hl 1 rfl) ?_
    refine va_get (D := g.1) (own := R_MM) (ref := R_MM) (ci := 5) (v := .ref (md 10)) (C := R_MM) (T := F_MM) (N := 16) hx hb hts in_MM hown hG.1 hP 0 rfl rfl 11 (by decide) (hts _ wd_394) (fun _ h9 => h9) rfl d_MM_put_16 ?_
    refine lv_iload_n hx hb d_MM_put_19 rfl (lv_at hl 2 rfl) ?_
    refine lv_iload_n hx hb d_MM_put_20 rfl (lv_at hl 3 rfl) ?_
    refine lv_bipush (v := nI 64) hx hb d_MM_put_21 (by decide) ?_
    refine lv_idiv hx hb d_MM_put_23 (by decide) ?_
    refine mt_ri (y := nI (i / 64)) (pk_div (by omega) (by decide) (by decide)) ?_
    refine lv_iadd hx hb d_MM_put_24 ?_
    refine mt_ri (y := nI (s0 + (i / 64))) (nI_add _ _) ?_
    refine lv_aload_n hx hb d_MM_put_25 rfl (lv_at hl 1 rfl) ?_
    refine va_get (D := g.1) (own := R_MM) (ref := R_MM) (ci := 5) (v := .ref (md 10)) (C := R_MM) (T := F_MM) (N := 16) hx hb hts in_MM hown hG.1 hP 0 rfl rfl 11 (by decide) (hts _ wd_394) (fun _ h9 => h9) rfl d_MM_put_26 ?_
    refine lv_iload_n hx hb d_MM_put_29 rfl (lv_at hl 2 rfl) ?_
    refine lv_iload_n hx hb d_MM_put_30 rfl (lv_at hl 3 rfl) ?_
    refine lv_bipush (v := nI 64) hx hb d_MM_put_31 (by decide) ?_
    refine lv_idiv hx hb d_MM_put_33 (by decide) ?_
    refine mt_ri (y := nI (i / 64)) (pk_div (by omega) (by decide) (by decide)) ?_
    refine lv_iadd hx hb d_MM_put_34 ?_
    refine mt_ri (y := nI (s0 + (i / 64))) (nI_add _ _) ?_
    refine va_lald hx hb hG.1 hP 10 2 rfl rfl (vp_in_nI (by omega) (by decide)) d_MM_put_35 ?_
    refine mt_rl (y := X (s0 + (i / 64))) (by rw [nI_clamp (by omega)]) ?_
    refine lv_lconst (v := 1) hx hb d_MM_put_36 (by decide) ?_
    refine lv_iload_n hx hb d_MM_put_37 rfl (lv_at hl 3 rfl) ?_
    refine lv_bipush (v := nI 64) hx hb d_MM_put_38 (by decide) ?_
    refine lv_irem hx hb d_MM_put_40 (by decide) ?_
    refine mt_ri (y := nI (i % 64)) (pk_rem (by omega) (by decide) (by decide)) ?_
    refine lv_lshl (v := 1 <<< ((nI (i % 64)).toInt64 &&& 63)) hx hb d_MM_put_41 rfl ?_
    refine lv_lor hx hb d_MM_put_42 ?_
    refine va_last hx hb hG.1 hP hD hS 10 2 rfl rfl (vp_in_nI (by omega) (by decide)) d_MM_put_43 (fun H locs hP hD hS => ?_)
    rw [nI_clamp (by omega)] at hP hD
    have hP : va_P g.1 gx_cl (mW g md J n v kn pr ar (vp_updL X (s0 + (i / 64)) ((X (s0 + (i / 64))) ||| (1 <<< ((nI (i % 64)).toInt64 &&& 63))))) H := hP
    have hD : va_D (gx_in (mW g md J n v kn pr ar X)) (mW g md J n v kn pr ar (vp_updL X (s0 + (i / 64)) ((X (s0 + (i / 64))) ||| (1 <<< ((nI (i % 64)).toInt64 &&& 63))))) := hD
    refine lv_iload_n hx hb d_MM_put_44 rfl (lv_at hl 0 rfl) ?_
    exact gc_retwz (u := (vp_updL X (s0 + (i / 64)) ((X (s0 + (i / 64))) ||| (1 <<< ((nI (i % 64)).toInt64 &&& 63))))) (v := true) (Wf := fun (u : Nat → Int64) => mW g md J n v kn pr ar u) (post := fun r (u : Nat → Int64) => r = mt_b (!mt_ms X cc i) ∧ mt_pt X u cc i) hx hb hr hlk (⟨by rw [hc6]; rfl, mt_pt_of hs hi⟩) hP hD hS d_MM_put_45

set_option maxHeartbeats 4000000 in
set_option maxRecDepth 100000 in
theorem c_MM_clear {g : gG} {md : Nat → Nat} {J : Nat → Nat → Int32} {n v kn pr ar : Nat} {X : Nat → Int64} {s0 cc : Nat} {l : Launch} (hs : s0 = 128 * cc) (hcc : cc < 27) :
    gc_RV (S := Nat → Int64) l y_MM_clear (gx_ws y_MM_clear b_MM_clear 3 none) 0 0 g [.ref (md 0), .int (nI s0)] (mW g md J n v kn pr ar X) (fun (u : Nat → Int64) => mW g md J n v kn pr ar u) (fun (u : Nat → Int64) => mt_clr X u cc) := by
  refine gx_body (by decide) (Nat.le_of_ble_eq_true rfl) ?_
  intro p e s m below meth c ls hAt hB hl
  obtain ⟨hx, hb, hml, hown, hts, hr, hlk, hnm⟩ := hAt
  have hown : s.vm.findClass R_MM = some m.cls := hown
  obtain ⟨⟨hP, hG⟩, hD0⟩ := hB
  have hD := gx_D.self hD0
  have hS : va_S (gx_in (mW g md J n v kn pr ar X)) s.heap s.heap [] := va_S.rf
  have hl : lv_has ls 3 [(0, .ref (md 0)), (1, .int (nI s0))] := hl
  refine lv_iconst (v := nI 0) hx hb d_MM_clear_0 (by decide) ?_
  refine lv_istore_n (lv' := [(2, .int (nI 0)), (0, .ref (md 0)), (1, .int (nI s0))]) hx hb d_MM_clear_1 rfl hl (by decide) rfl (fun ls hl => ?_)
  have lp2 : ∀ (d : Nat) (i : Nat) (X1 : Nat → Int64) (ls : Array Slot) (H : Heap) (locs : List Loc), d = 128 - i → (i ≤ 128) → (∀ j, X1 j = if 128 * cc ≤ j ∧ j < 128 * cc + i then 0 else X j) → lv_has ls 3 [(2, .int (nI i)), (0, .ref (md 0)), (1, .int (nI s0))] → va_P g.1 gx_cl (mW g md J n v kn pr ar X1) H → va_D (gx_in (mW g md J n v kn pr ar X)) (mW g md J n v kn pr ar X1) → va_S (gx_in (mW g md J n v kn pr ar X)) s.heap H locs → W p l e (gx_rm 0 0) s m ([.ref (md 0), .int (nI s0)] : List Value).toArray below meth c H locs 0 0 (MQ below (va_Qv (fun (u : Nat → Int64) => mt_clr X u cc) (fun u9 t9 => va_P g.1 gx_cl ((fun (u : Nat → Int64) => mW g md J n v kn pr ar u) u9) t9.heap ∧ va_D (gx_in (mW g md J n v kn pr ar X)) ((fun (u : Nat → Int64) => mW g md J n v kn pr ar u) u9)) (gx_in (mW g md J n v kn pr ar X))) ([.ref (md 0), .int (nI s0)] : List Value).toArray s 0 0 (gx_in (mW g md J n v kn pr ar X))) (F0 m 2 ls []) := by
    intro d
    induction d using Nat.strongRecOn with
    | ind d ih2 =>
    intro i X1 ls H locs hd hi hz hl hP hD hS
    refine lv_iload_n hx hb d_MM_clear_2 rfl (lv_at hl 0 rfl) ?_
    refine lv_sipush (v := nI 128) hx hb d_MM_clear_3 (by decide) ?_
    refine lv_icmp_ge (tgt := 24) hx hb d_MM_clear_6 (by decide) (mt_le (by omega) (by omega) fun hc6 => ?_) (mt_nle (by omega) (by omega) fun hc6 => ?_)
    · ---- 6T
      exact gc_retv (u := (X1)) (Wf := fun (u : Nat → Int64) => mW g md J n v kn pr ar u) (post := fun (u : Nat → Int64) => mt_clr X u cc) hx hb hr hlk (mt_clr_of (by rw [show i = 128 by omega] at hz; exact hz)) hP hD hS d_MM_clear_24
    · ---- 6F
      refine lv_aload_n hx hb d_MM_clear_9 rfl (lv_at hl 1 rfl) ?_
      refine va_get (D := g.1) (own := R_MM) (ref := R_MM) (ci := 5) (v := .ref (md 10)) (C := R_MM) (T := F_MM) (N := 16) hx hb hts in_MM hown hG.1 hP 0 rfl rfl 11 (by decide) (hts _ wd_394) (fun _ h9 => h9) rfl d_MM_clear_10 ?_
      refine lv_iload_n hx hb d_MM_clear_13 rfl (lv_at hl 2 rfl) ?_
      refine lv_iload_n hx hb d_MM_clear_14 rfl (lv_at hl 0 rfl) ?_
      refine lv_iadd hx hb d_MM_clear_15 ?_
      refine mt_ri (y := nI (s0 + i)) (nI_add _ _) ?_
      refine lv_lconst (v := 0) hx hb d_MM_clear_16 (by decide) ?_
      refine va_last hx hb hG.1 hP hD hS 10 2 rfl rfl (vp_in_nI (by omega) (by decide)) d_MM_clear_17 (fun H locs hP hD hS => ?_)
      rw [nI_clamp (by omega)] at hP hD
      have hP : va_P g.1 gx_cl (mW g md J n v kn pr ar (vp_updL X1 (s0 + i) 0)) H := hP
      have hD : va_D (gx_in (mW g md J n v kn pr ar X)) (mW g md J n v kn pr ar (vp_updL X1 (s0 + i) 0)) := hD
      refine lv_iinc (k := 0) (v := nI (i + 1)) (lv' := [(2, .int (nI (i + 1))), (0, .ref (md 0)), (1, .int (nI s0))]) hx hb d_MM_clear_18 hl rfl (by rw [lit1]; exact nI_1 _) (by decide) rfl (fun ls hl => ?_)
      refine lv_goto (tgt := 2) hx hb d_MM_clear_21 (by decide) ?_
      exact ih2 _ (by omega) (i + 1) (vp_updL X1 (s0 + i) 0) ls _ _ rfl (by omega) (mt_clr_s hs hz) (lv_sub hl [0, 1, 2] rfl) hP hD hS
  exact lp2 _ 0 X ls _ _ rfl (by decide) (fun j => by rw [if_neg (by omega)]) (lv_sub hl [0, 1, 2] rfl) hP hD hS

set_option maxHeartbeats 4000000 in
set_option maxRecDepth 100000 in
theorem c_MM_isType {g : gG} {md : Nat → Nat} {J : Nat → Nat → Int32} {n v kn pr ar : Nat} {X : Nat → Int64} {x : Int32} {l : Launch} (hn : n ≤ 20) :
    gc_RO l y_MM_isType (gx_ws y_MM_isType b_MM_isType 2 (some .boolean)) 0 0 g [.ref (md 0), .int x] (mW g md J n v kn pr ar X) (fun r => ∃ z, r = mt_b z ∧ (z = true ↔ ∃ j, sp_is n x j)) := by
  refine gx_body (by decide) (Nat.le_of_ble_eq_true rfl) ?_
  intro p e s m below meth c ls hAt hB hl
  obtain ⟨hx, hb, hml, hown, hts, hr, hlk, hnm⟩ := hAt
  have hown : s.vm.findClass R_MM = some m.cls := hown
  obtain ⟨hP, hG⟩ := hB
  have hl : lv_has ls 2 [(0, .ref (md 0)), (1, .int x)] := hl
  refine lv_iload_n hx hb d_MM_isType_0 rfl (lv_at hl 1 rfl) ?_
  refine lv_if_lt (tgt := 16) hx hb d_MM_isType_1 (by decide) (fun hc1 => ?_) (fun hc1 => ?_)
  · ---- 1T
    refine lv_iconst (v := nI 0) hx hb d_MM_isType_16 (by decide) ?_
    exact gc_retz (v := false) (post := fun r => ∃ z, r = mt_b z ∧ (z = true ↔ ∃ j, sp_is n x j)) hx hb hr hlk (⟨false, rfl, (fun h => by cases h), (fun ⟨j, h1, h2⟩ => absurd hc1 (by rw [h2]; exact nI_pos (by omega)))⟩) d_MM_isType_17
  · ---- 1F
    refine lv_iload_n hx hb d_MM_isType_4 rfl (lv_at hl 1 rfl) ?_
    refine lv_aload_n hx hb d_MM_isType_5 rfl (lv_at hl 0 rfl) ?_
    refine va_get (D := g.1) (own := R_MM) (ref := R_MM) (ci := 5) (v := .int (nI n)) (C := R_MM) (T := F_MM) (N := 16) hx hb hts in_MM hown hG.1 hP 0 rfl rfl 0 (by decide) (hts _ wd_383) (fun _ h9 => h9) rfl d_MM_isType_6 ?_
    refine lv_icmp_ge (tgt := 16) hx hb d_MM_isType_9 (by decide) (fun hc9 => ?_) (fun hc9 => ?_)
    · ---- 1F 9T
      refine lv_iconst (v := nI 0) hx hb d_MM_isType_16 (by decide) ?_
      exact gc_retz (v := false) (post := fun r => ∃ z, r = mt_b z ∧ (z = true ↔ ∃ j, sp_is n x j)) hx hb hr hlk (⟨false, rfl, (fun h => by cases h), (fun ⟨j, h1, h2⟩ => absurd hc9 (by rw [h2]; exact nI_ge h1 (by omega)))⟩) d_MM_isType_17
    · ---- 1F 9F
      refine lv_iconst (v := nI 1) hx hb d_MM_isType_12 (by decide) ?_
      refine lv_goto (tgt := 17) hx hb d_MM_isType_13 (by decide) ?_
      exact gc_retz (v := true) (post := fun r => ∃ z, r = mt_b z ∧ (z = true ↔ ∃ j, sp_is n x j)) hx hb hr hlk (⟨true, rfl, (fun _ => mt_has_t hc1 hc9), (fun _ => rfl)⟩) d_MM_isType_17

set_option maxHeartbeats 4000000 in
set_option maxRecDepth 100000 in
theorem c_MM_isValue {g : gG} {md : Nat → Nat} {J : Nat → Nat → Int32} {n v kn pr ar : Nat} {X : Nat → Int64} {x : Int32} {l : Launch} (hn : v ≤ 20) :
    gc_RO l y_MM_isValue (gx_ws y_MM_isValue b_MM_isValue 2 (some .boolean)) 0 0 g [.ref (md 0), .int x] (mW g md J n v kn pr ar X) (fun r => ∃ z, r = mt_b z ∧ (z = true ↔ ∃ j, sp_is v x j)) := by
  refine gx_body (by decide) (Nat.le_of_ble_eq_true rfl) ?_
  intro p e s m below meth c ls hAt hB hl
  obtain ⟨hx, hb, hml, hown, hts, hr, hlk, hnm⟩ := hAt
  have hown : s.vm.findClass R_MM = some m.cls := hown
  obtain ⟨hP, hG⟩ := hB
  have hl : lv_has ls 2 [(0, .ref (md 0)), (1, .int x)] := hl
  refine lv_iload_n hx hb d_MM_isValue_0 rfl (lv_at hl 1 rfl) ?_
  refine lv_if_lt (tgt := 16) hx hb d_MM_isValue_1 (by decide) (fun hc1 => ?_) (fun hc1 => ?_)
  · ---- 1T
    refine lv_iconst (v := nI 0) hx hb d_MM_isValue_16 (by decide) ?_
    exact gc_retz (v := false) (post := fun r => ∃ z, r = mt_b z ∧ (z = true ↔ ∃ j, sp_is v x j)) hx hb hr hlk (⟨false, rfl, (fun h => by cases h), (fun ⟨j, h1, h2⟩ => absurd hc1 (by rw [h2]; exact nI_pos (by omega)))⟩) d_MM_isValue_17
  · ---- 1F
    refine lv_iload_n hx hb d_MM_isValue_4 rfl (lv_at hl 1 rfl) ?_
    refine lv_aload_n hx hb d_MM_isValue_5 rfl (lv_at hl 0 rfl) ?_
    refine va_get (D := g.1) (own := R_MM) (ref := R_MM) (ci := 5) (v := .int (nI v)) (C := R_MM) (T := F_MM) (N := 16) hx hb hts in_MM hown hG.1 hP 0 rfl rfl 6 (by decide) (hts _ wd_389) (fun _ h9 => h9) rfl d_MM_isValue_6 ?_
    refine lv_icmp_ge (tgt := 16) hx hb d_MM_isValue_9 (by decide) (fun hc9 => ?_) (fun hc9 => ?_)
    · ---- 1F 9T
      refine lv_iconst (v := nI 0) hx hb d_MM_isValue_16 (by decide) ?_
      exact gc_retz (v := false) (post := fun r => ∃ z, r = mt_b z ∧ (z = true ↔ ∃ j, sp_is v x j)) hx hb hr hlk (⟨false, rfl, (fun h => by cases h), (fun ⟨j, h1, h2⟩ => absurd hc9 (by rw [h2]; exact nI_ge h1 (by omega)))⟩) d_MM_isValue_17
    · ---- 1F 9F
      refine lv_iconst (v := nI 1) hx hb d_MM_isValue_12 (by decide) ?_
      refine lv_goto (tgt := 17) hx hb d_MM_isValue_13 (by decide) ?_
      exact gc_retz (v := true) (post := fun r => ∃ z, r = mt_b z ∧ (z = true ↔ ∃ j, sp_is v x j)) hx hb hr hlk (⟨true, rfl, (fun _ => mt_has_t hc1 hc9), (fun _ => rfl)⟩) d_MM_isValue_17
