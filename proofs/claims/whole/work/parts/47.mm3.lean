set_option maxHeartbeats 4000000 in
set_option maxRecDepth 100000 in
theorem c_MM_parts1 {g : gG} {md : Nat → Nat} {J : Nat → Nat → Int32} {n v kn pr ar : Nat} {X : Nat → Int64} {k a b : Nat → Nat} {nn kk rw : Nat} {l : Launch} (hT : mt_MT J nn k a b) (hn13 : nn ≤ 13) (hw : mt_wf k a b nn) (hN : mt_NU J pr ar nn k) (hkk : kk = 1 ∨ kk = 2) (hrw : rw < 8192) :
    gc_RO l y_MM_parts (gx_ws y_MM_parts b_MM_parts 8 (some .int)) 0 0 g [.ref (md 0), .int (nI nn), .int (nI kk), .int (nI 1), .int (nI rw)] (mW g md J n v kn pr ar X) (fun r => r = nI (mt_cz k kk (fun t => Nat.testBit rw (a t)) nn)) := by
  refine gx_body (by decide) (Nat.le_of_ble_eq_true rfl) ?_
  intro p e s m below meth c ls hAt hB hl
  obtain ⟨hx, hb, hml, hown, hts, hr, hlk, hnm⟩ := hAt
  have hown : s.vm.findClass R_MM = some m.cls := hown
  obtain ⟨hP, hG⟩ := hB
  have hl : lv_has ls 8 [(0, .ref (md 0)), (1, .int (nI nn)), (2, .int (nI kk)), (3, .int (nI 1)), (4, .int (nI rw))] := hl
  refine lv_iconst (v := nI 0) hx hb d_MM_parts_0 (by decide) ?_
  refine lv_istore (lv' := [(5, .int (nI 0)), (0, .ref (md 0)), (1, .int (nI nn)), (2, .int (nI kk)), (3, .int (nI 1)), (4, .int (nI rw))]) hx hb d_MM_parts_1 hl (by decide) rfl (fun ls hl => ?_)
  refine lv_iconst (v := nI 0) hx hb d_MM_parts_3 (by decide) ?_
  refine lv_istore (lv' := [(6, .int (nI 0)), (5, .int (nI 0)), (0, .ref (md 0)), (1, .int (nI nn)), (2, .int (nI kk)), (3, .int (nI 1)), (4, .int (nI rw))]) hx hb d_MM_parts_4 hl (by decide) rfl (fun ls hl => ?_)
  have lp6 : ∀ (d : Nat) (i : Nat) (x : Nat) (ls : Array Slot), d = nn - i → (i ≤ nn) → (x = mt_cz k kk (fun t => Nat.testBit rw (a t)) i) → lv_has ls 8 [(6, .int (nI i)), (5, .int (nI x)), (0, .ref (md 0)), (1, .int (nI nn)), (2, .int (nI kk)), (3, .int (nI 1)), (4, .int (nI rw))] → W p l e (gx_rm 0 0) s m ([.ref (md 0), .int (nI nn), .int (nI kk), .int (nI 1), .int (nI rw)] : List Value).toArray below meth c s.heap [] 0 0 (MQ below (vp_Si (fun r => r = nI (mt_cz k kk (fun t => Nat.testBit rw (a t)) nn))) ([.ref (md 0), .int (nI nn), .int (nI kk), .int (nI 1), .int (nI rw)] : List Value).toArray s 0 0 (fun _ => False)) (F0 m 6 ls []) := by
    intro d
    induction d using Nat.strongRecOn with
    | ind d ih6 =>
    intro i x ls hd hi hx9 hl
    refine lv_iload hx hb d_MM_parts_6 (lv_at hl 0 rfl) ?_
    refine lv_iload_n hx hb d_MM_parts_8 rfl (lv_at hl 3 rfl) ?_
    refine lv_icmp_ge (tgt := 82) hx hb d_MM_parts_9 (by decide) (mt_le (by omega) (by omega) fun hc9 => ?_) (mt_nle (by omega) (by omega) fun hc9 => ?_)
    · ---- 9T
      refine lv_iload hx hb d_MM_parts_82 (lv_at hl 1 rfl) ?_
      exact gc_reti (post := fun r => r = nI (mt_cz k kk (fun t => Nat.testBit rw (a t)) nn)) hx hb hr hlk (by rw [hx9, show i = nn by omega]) d_MM_parts_84
    · ---- 9F
      have hw1 := hw i (by omega)
      have hpl := mt_pl_le (k := k) i
      refine lv_iload_n hx hb d_MM_parts_12 rfl (lv_at hl 5 rfl) ?_
      refine lv_if_eq (tgt := 26) hx hb d_MM_parts_13 (by decide) (fun h9 => absurd h9 (by decide)) (fun _ => ?_)
      refine lv_aload_n hx hb d_MM_parts_16 rfl (lv_at hl 2 rfl) ?_
      refine va_get (D := g.1) (own := R_MM) (ref := R_MM) (ci := 5) (v := .ref (md 2)) (C := R_MM) (T := F_MM) (N := 16) hx hb hts in_MM hown hG.1 hP 0 rfl rfl 2 (by decide) (hts _ wd_385) (fun _ h9 => h9) rfl d_MM_parts_17 ?_
      refine lv_iload hx hb d_MM_parts_20 (lv_at hl 0 rfl) ?_
      refine va_iald hx hb hG.1 hP 2 0 rfl rfl (vp_in_nI (by omega) (by decide)) d_MM_parts_22 ?_
      refine mt_ri (y := nI (a i)) (by rw [nI_clamp (by omega)]; exact (hT _ (by omega)).2.1) ?_
      refine lv_goto (tgt := 33) hx hb d_MM_parts_23 (by decide) ?_
      refine lv_istore (lv' := [(7, .int (nI (a i))), (6, .int (nI i)), (5, .int (nI x)), (0, .ref (md 0)), (1, .int (nI nn)), (2, .int (nI kk)), (3, .int (nI 1)), (4, .int (nI rw))]) hx hb d_MM_parts_33 hl (by decide) rfl (fun ls hl => ?_)
      refine lv_aload_n hx hb d_MM_parts_35 rfl (lv_at hl 3 rfl) ?_
      refine va_get (D := g.1) (own := R_MM) (ref := R_MM) (ci := 5) (v := .ref (md 1)) (C := R_MM) (T := F_MM) (N := 16) hx hb hts in_MM hown hG.1 hP 0 rfl rfl 1 (by decide) (hts _ wd_384) (fun _ h9 => h9) rfl d_MM_parts_36 ?_
      refine lv_iload hx hb d_MM_parts_39 (lv_at hl 1 rfl) ?_
      refine va_iald hx hb hG.1 hP 1 0 rfl rfl (vp_in_nI (by omega) (by decide)) d_MM_parts_41 ?_
      refine mt_ri (y := nI (k i)) (by rw [nI_clamp (by omega)]; exact (hT _ (by omega)).1) ?_
      refine lv_iload_n hx hb d_MM_parts_42 rfl (lv_at hl 5 rfl) ?_
      refine lv_icmp_ne (tgt := 72) hx hb d_MM_parts_43 (by decide) (mt_ne (by omega) (by omega) fun hc43 => ?_) (mt_eq (by omega) (by omega) fun hc43 => ?_)
      · ---- 9F 43T
        refine lv_iload hx hb d_MM_parts_72 (lv_at hl 2 rfl) ?_
        refine lv_istore (lv' := [(5, .int (nI x)), (7, .int (nI (a i))), (6, .int (nI i)), (0, .ref (md 0)), (1, .int (nI nn)), (2, .int (nI kk)), (3, .int (nI 1)), (4, .int (nI rw))]) hx hb d_MM_parts_74 hl (by decide) rfl (fun ls hl => ?_)
        refine lv_iinc (k := 2) (v := nI (i + 1)) (lv' := [(6, .int (nI (i + 1))), (5, .int (nI x)), (7, .int (nI (a i))), (0, .ref (md 0)), (1, .int (nI nn)), (2, .int (nI kk)), (3, .int (nI 1)), (4, .int (nI rw))]) hx hb d_MM_parts_76 hl rfl (by rw [lit1]; exact nI_1 _) (by decide) rfl (fun ls hl => ?_)
        refine lv_goto (tgt := 6) hx hb d_MM_parts_79 (by decide) ?_
        exact ih6 _ (by omega) (i + 1) x ls rfl (by omega) (mt_cz_f hx9 (fun h9 => hc43 h9.1)) (lv_sub hl [0, 1, 3, 4, 5, 6, 7] rfl)
      · ---- 9F 43F
        refine lv_iload hx hb d_MM_parts_46 (lv_at hl 7 rfl) ?_
        refine lv_iload hx hb d_MM_parts_48 (lv_at hl 0 rfl) ?_
        refine lv_ishr hx hb d_MM_parts_50 ?_
        refine lv_iconst (v := nI 1) hx hb d_MM_parts_51 (by decide) ?_
        refine lv_iand hx hb d_MM_parts_52 ?_
        refine mt_ri (y := mt_b (Nat.testBit rw ((a i) % 32))) (mt_bit32 (by omega) (by omega)) ?_
        refine lv_iconst (v := nI 1) hx hb d_MM_parts_53 (by decide) ?_
        refine lv_icmp_ne (tgt := 72) hx hb d_MM_parts_54 (by decide) (mt_nb1 fun hc54 => ?_) (mt_b1 fun hc54 => ?_)
        · ---- 9F 43F 54T
          refine lv_iload hx hb d_MM_parts_72 (lv_at hl 2 rfl) ?_
          refine lv_istore (lv' := [(5, .int (nI x)), (7, .int (nI (a i))), (6, .int (nI i)), (0, .ref (md 0)), (1, .int (nI nn)), (2, .int (nI kk)), (3, .int (nI 1)), (4, .int (nI rw))]) hx hb d_MM_parts_74 hl (by decide) rfl (fun ls hl => ?_)
          refine lv_iinc (k := 2) (v := nI (i + 1)) (lv' := [(6, .int (nI (i + 1))), (5, .int (nI x)), (7, .int (nI (a i))), (0, .ref (md 0)), (1, .int (nI nn)), (2, .int (nI kk)), (3, .int (nI 1)), (4, .int (nI rw))]) hx hb d_MM_parts_76 hl rfl (by rw [lit1]; exact nI_1 _) (by decide) rfl (fun ls hl => ?_)
          refine lv_goto (tgt := 6) hx hb d_MM_parts_79 (by decide) ?_
          exact ih6 _ (by omega) (i + 1) x ls rfl (by omega) (mt_cz_f hx9 (fun h9 => by have h8 := h9.2; rw [Nat.mod_eq_of_lt (by have := (hw i (by omega)).2.1 (by omega) (by omega); omega)] at hc54; rw [hc54] at h8; cases h8)) (lv_sub hl [0, 1, 3, 4, 5, 6, 7] rfl)
        · ---- 9F 43F 54F
          refine lv_iload hx hb d_MM_parts_57 (lv_at hl 2 rfl) ?_
          refine lv_iconst (v := nI 1) hx hb d_MM_parts_59 (by decide) ?_
          refine lv_aload_n hx hb d_MM_parts_60 rfl (lv_at hl 3 rfl) ?_
          refine va_get (D := g.1) (own := R_MM) (ref := R_MM) (ci := 5) (v := .ref (md 11)) (C := R_MM) (T := F_MM) (N := 16) hx hb hts in_MM hown hG.1 hP 0 rfl rfl 15 (by decide) (hts _ wd_398) (fun _ h9 => h9) rfl d_MM_parts_61 ?_
          refine lv_iload hx hb d_MM_parts_64 (lv_at hl 1 rfl) ?_
          refine va_iald hx hb hG.1 hP 11 0 rfl rfl (vp_in_nI (by omega) (by decide)) d_MM_parts_66 ?_
          refine mt_ri (y := nI (mt_pl k i)) (by rw [nI_clamp (by omega)]; exact (hN.2.2 _ (by omega))) ?_
          refine lv_ishl hx hb d_MM_parts_67 ?_
          refine mt_ri (y := nI (2 ^ (mt_pl k i))) (mt_shl (by omega)) ?_
          refine lv_ior hx hb d_MM_parts_68 ?_
          refine mt_ri (y := nI (x ||| (2 ^ (mt_pl k i)))) (mt_or _ _) ?_
          refine lv_goto (tgt := 74) hx hb d_MM_parts_69 (by decide) ?_
          refine lv_istore (lv' := [(5, .int (nI (x ||| (2 ^ (mt_pl k i))))), (7, .int (nI (a i))), (6, .int (nI i)), (0, .ref (md 0)), (1, .int (nI nn)), (2, .int (nI kk)), (3, .int (nI 1)), (4, .int (nI rw))]) hx hb d_MM_parts_74 hl (by decide) rfl (fun ls hl => ?_)
          refine lv_iinc (k := 2) (v := nI (i + 1)) (lv' := [(6, .int (nI (i + 1))), (5, .int (nI (x ||| (2 ^ (mt_pl k i))))), (7, .int (nI (a i))), (0, .ref (md 0)), (1, .int (nI nn)), (2, .int (nI kk)), (3, .int (nI 1)), (4, .int (nI rw))]) hx hb d_MM_parts_76 hl rfl (by rw [lit1]; exact nI_1 _) (by decide) rfl (fun ls hl => ?_)
          refine lv_goto (tgt := 6) hx hb d_MM_parts_79 (by decide) ?_
          exact ih6 _ (by omega) (i + 1) (x ||| (2 ^ (mt_pl k i))) ls rfl (by omega) (mt_cz_t hx9 hc43 hkk (by rw [Nat.mod_eq_of_lt (by have := (hw i (by omega)).2.1 (by omega) (by omega); omega)] at hc54; exact hc54)) (lv_sub hl [0, 1, 3, 4, 5, 6, 7] rfl)
  exact lp6 _ 0 0 ls rfl (Nat.zero_le _) (rfl) (lv_sub hl [0, 1, 2, 3, 4, 5, 6] rfl)

set_option maxHeartbeats 4000000 in
set_option maxRecDepth 100000 in
theorem c_MM_parts0 {g : gG} {md : Nat → Nat} {J : Nat → Nat → Int32} {n v kn pr ar : Nat} {X : Nat → Int64} {k a b : Nat → Nat} {nn kk rw : Nat} {l : Launch} (hT : mt_MT J nn k a b) (hn13 : nn ≤ 13) (hw : mt_wf k a b nn) (hN : mt_NU J pr ar nn k) (hkk : kk = 1 ∨ kk = 2) (hrw : rw < 8192) :
    gc_RO l y_MM_parts (gx_ws y_MM_parts b_MM_parts 8 (some .int)) 0 0 g [.ref (md 0), .int (nI nn), .int (nI kk), .int (nI 0), .int (nI rw)] (mW g md J n v kn pr ar X) (fun r => r = nI (mt_cz k kk (fun t => Nat.testBit rw (b t)) nn)) := by
  refine gx_body (by decide) (Nat.le_of_ble_eq_true rfl) ?_
  intro p e s m below meth c ls hAt hB hl
  obtain ⟨hx, hb, hml, hown, hts, hr, hlk, hnm⟩ := hAt
  have hown : s.vm.findClass R_MM = some m.cls := hown
  obtain ⟨hP, hG⟩ := hB
  have hl : lv_has ls 8 [(0, .ref (md 0)), (1, .int (nI nn)), (2, .int (nI kk)), (3, .int (nI 0)), (4, .int (nI rw))] := hl
  refine lv_iconst (v := nI 0) hx hb d_MM_parts_0 (by decide) ?_
  refine lv_istore (lv' := [(5, .int (nI 0)), (0, .ref (md 0)), (1, .int (nI nn)), (2, .int (nI kk)), (3, .int (nI 0)), (4, .int (nI rw))]) hx hb d_MM_parts_1 hl (by decide) rfl (fun ls hl => ?_)
  refine lv_iconst (v := nI 0) hx hb d_MM_parts_3 (by decide) ?_
  refine lv_istore (lv' := [(6, .int (nI 0)), (5, .int (nI 0)), (0, .ref (md 0)), (1, .int (nI nn)), (2, .int (nI kk)), (3, .int (nI 0)), (4, .int (nI rw))]) hx hb d_MM_parts_4 hl (by decide) rfl (fun ls hl => ?_)
  have lp6 : ∀ (d : Nat) (i : Nat) (x : Nat) (ls : Array Slot), d = nn - i → (i ≤ nn) → (x = mt_cz k kk (fun t => Nat.testBit rw (b t)) i) → lv_has ls 8 [(6, .int (nI i)), (5, .int (nI x)), (0, .ref (md 0)), (1, .int (nI nn)), (2, .int (nI kk)), (3, .int (nI 0)), (4, .int (nI rw))] → W p l e (gx_rm 0 0) s m ([.ref (md 0), .int (nI nn), .int (nI kk), .int (nI 0), .int (nI rw)] : List Value).toArray below meth c s.heap [] 0 0 (MQ below (vp_Si (fun r => r = nI (mt_cz k kk (fun t => Nat.testBit rw (b t)) nn))) ([.ref (md 0), .int (nI nn), .int (nI kk), .int (nI 0), .int (nI rw)] : List Value).toArray s 0 0 (fun _ => False)) (F0 m 6 ls []) := by
    intro d
    induction d using Nat.strongRecOn with
    | ind d ih6 =>
    intro i x ls hd hi hx9 hl
    refine lv_iload hx hb d_MM_parts_6 (lv_at hl 0 rfl) ?_
    refine lv_iload_n hx hb d_MM_parts_8 rfl (lv_at hl 3 rfl) ?_
    refine lv_icmp_ge (tgt := 82) hx hb d_MM_parts_9 (by decide) (mt_le (by omega) (by omega) fun hc9 => ?_) (mt_nle (by omega) (by omega) fun hc9 => ?_)
    · ---- 9T
      refine lv_iload hx hb d_MM_parts_82 (lv_at hl 1 rfl) ?_
      exact gc_reti (post := fun r => r = nI (mt_cz k kk (fun t => Nat.testBit rw (b t)) nn)) hx hb hr hlk (by rw [hx9, show i = nn by omega]) d_MM_parts_84
    · ---- 9F
      have hw1 := hw i (by omega)
      have hpl := mt_pl_le (k := k) i
      refine lv_iload_n hx hb d_MM_parts_12 rfl (lv_at hl 5 rfl) ?_
      refine lv_if_eq (tgt := 26) hx hb d_MM_parts_13 (by decide) (fun _ => ?_) (fun h9 => absurd h9 (by decide))
      refine lv_aload_n hx hb d_MM_parts_26 rfl (lv_at hl 2 rfl) ?_
      refine va_get (D := g.1) (own := R_MM) (ref := R_MM) (ci := 5) (v := .ref (md 3)) (C := R_MM) (T := F_MM) (N := 16) hx hb hts in_MM hown hG.1 hP 0 rfl rfl 3 (by decide) (hts _ wd_386) (fun _ h9 => h9) rfl d_MM_parts_27 ?_
      refine lv_iload hx hb d_MM_parts_30 (lv_at hl 0 rfl) ?_
      refine va_iald hx hb hG.1 hP 3 0 rfl rfl (vp_in_nI (by omega) (by decide)) d_MM_parts_32 ?_
      refine mt_ri (y := nI (b i)) (by rw [nI_clamp (by omega)]; exact (hT _ (by omega)).2.2) ?_
      refine lv_istore (lv' := [(7, .int (nI (b i))), (6, .int (nI i)), (5, .int (nI x)), (0, .ref (md 0)), (1, .int (nI nn)), (2, .int (nI kk)), (3, .int (nI 0)), (4, .int (nI rw))]) hx hb d_MM_parts_33 hl (by decide) rfl (fun ls hl => ?_)
      refine lv_aload_n hx hb d_MM_parts_35 rfl (lv_at hl 3 rfl) ?_
      refine va_get (D := g.1) (own := R_MM) (ref := R_MM) (ci := 5) (v := .ref (md 1)) (C := R_MM) (T := F_MM) (N := 16) hx hb hts in_MM hown hG.1 hP 0 rfl rfl 1 (by decide) (hts _ wd_384) (fun _ h9 => h9) rfl d_MM_parts_36 ?_
      refine lv_iload hx hb d_MM_parts_39 (lv_at hl 1 rfl) ?_
      refine va_iald hx hb hG.1 hP 1 0 rfl rfl (vp_in_nI (by omega) (by decide)) d_MM_parts_41 ?_
      refine mt_ri (y := nI (k i)) (by rw [nI_clamp (by omega)]; exact (hT _ (by omega)).1) ?_
      refine lv_iload_n hx hb d_MM_parts_42 rfl (lv_at hl 5 rfl) ?_
      refine lv_icmp_ne (tgt := 72) hx hb d_MM_parts_43 (by decide) (mt_ne (by omega) (by omega) fun hc43 => ?_) (mt_eq (by omega) (by omega) fun hc43 => ?_)
      · ---- 9F 43T
        refine lv_iload hx hb d_MM_parts_72 (lv_at hl 2 rfl) ?_
        refine lv_istore (lv' := [(5, .int (nI x)), (7, .int (nI (b i))), (6, .int (nI i)), (0, .ref (md 0)), (1, .int (nI nn)), (2, .int (nI kk)), (3, .int (nI 0)), (4, .int (nI rw))]) hx hb d_MM_parts_74 hl (by decide) rfl (fun ls hl => ?_)
        refine lv_iinc (k := 2) (v := nI (i + 1)) (lv' := [(6, .int (nI (i + 1))), (5, .int (nI x)), (7, .int (nI (b i))), (0, .ref (md 0)), (1, .int (nI nn)), (2, .int (nI kk)), (3, .int (nI 0)), (4, .int (nI rw))]) hx hb d_MM_parts_76 hl rfl (by rw [lit1]; exact nI_1 _) (by decide) rfl (fun ls hl => ?_)
        refine lv_goto (tgt := 6) hx hb d_MM_parts_79 (by decide) ?_
        exact ih6 _ (by omega) (i + 1) x ls rfl (by omega) (mt_cz_f hx9 (fun h9 => hc43 h9.1)) (lv_sub hl [0, 1, 3, 4, 5, 6, 7] rfl)
      · ---- 9F 43F
        refine lv_iload hx hb d_MM_parts_46 (lv_at hl 7 rfl) ?_
        refine lv_iload hx hb d_MM_parts_48 (lv_at hl 0 rfl) ?_
        refine lv_ishr hx hb d_MM_parts_50 ?_
        refine lv_iconst (v := nI 1) hx hb d_MM_parts_51 (by decide) ?_
        refine lv_iand hx hb d_MM_parts_52 ?_
        refine mt_ri (y := mt_b (Nat.testBit rw ((b i) % 32))) (mt_bit32 (by omega) (by omega)) ?_
        refine lv_iconst (v := nI 1) hx hb d_MM_parts_53 (by decide) ?_
        refine lv_icmp_ne (tgt := 72) hx hb d_MM_parts_54 (by decide) (mt_nb1 fun hc54 => ?_) (mt_b1 fun hc54 => ?_)
        · ---- 9F 43F 54T
          refine lv_iload hx hb d_MM_parts_72 (lv_at hl 2 rfl) ?_
          refine lv_istore (lv' := [(5, .int (nI x)), (7, .int (nI (b i))), (6, .int (nI i)), (0, .ref (md 0)), (1, .int (nI nn)), (2, .int (nI kk)), (3, .int (nI 0)), (4, .int (nI rw))]) hx hb d_MM_parts_74 hl (by decide) rfl (fun ls hl => ?_)
          refine lv_iinc (k := 2) (v := nI (i + 1)) (lv' := [(6, .int (nI (i + 1))), (5, .int (nI x)), (7, .int (nI (b i))), (0, .ref (md 0)), (1, .int (nI nn)), (2, .int (nI kk)), (3, .int (nI 0)), (4, .int (nI rw))]) hx hb d_MM_parts_76 hl rfl (by rw [lit1]; exact nI_1 _) (by decide) rfl (fun ls hl => ?_)
          refine lv_goto (tgt := 6) hx hb d_MM_parts_79 (by decide) ?_
          exact ih6 _ (by omega) (i + 1) x ls rfl (by omega) (mt_cz_f hx9 (fun h9 => by have h8 := h9.2; rw [Nat.mod_eq_of_lt (by have := (hw i (by omega)).2.1 (by omega) (by omega); omega)] at hc54; rw [hc54] at h8; cases h8)) (lv_sub hl [0, 1, 3, 4, 5, 6, 7] rfl)
        · ---- 9F 43F 54F
          refine lv_iload hx hb d_MM_parts_57 (lv_at hl 2 rfl) ?_
          refine lv_iconst (v := nI 1) hx hb d_MM_parts_59 (by decide) ?_
          refine lv_aload_n hx hb d_MM_parts_60 rfl (lv_at hl 3 rfl) ?_
          refine va_get (D := g.1) (own := R_MM) (ref := R_MM) (ci := 5) (v := .ref (md 11)) (C := R_MM) (T := F_MM) (N := 16) hx hb hts in_MM hown hG.1 hP 0 rfl rfl 15 (by decide) (hts _ wd_398) (fun _ h9 => h9) rfl d_MM_parts_61 ?_
          refine lv_iload hx hb d_MM_parts_64 (lv_at hl 1 rfl) ?_
          refine va_iald hx hb hG.1 hP 11 0 rfl rfl (vp_in_nI (by omega) (by decide)) d_MM_parts_66 ?_
          refine mt_ri (y := nI (mt_pl k i)) (by rw [nI_clamp (by omega)]; exact (hN.2.2 _ (by omega))) ?_
          refine lv_ishl hx hb d_MM_parts_67 ?_
          refine mt_ri (y := nI (2 ^ (mt_pl k i))) (mt_shl (by omega)) ?_
          refine lv_ior hx hb d_MM_parts_68 ?_
          refine mt_ri (y := nI (x ||| (2 ^ (mt_pl k i)))) (mt_or _ _) ?_
          refine lv_goto (tgt := 74) hx hb d_MM_parts_69 (by decide) ?_
          refine lv_istore (lv' := [(5, .int (nI (x ||| (2 ^ (mt_pl k i))))), (7, .int (nI (b i))), (6, .int (nI i)), (0, .ref (md 0)), (1, .int (nI nn)), (2, .int (nI kk)), (3, .int (nI 0)), (4, .int (nI rw))]) hx hb d_MM_parts_74 hl (by decide) rfl (fun ls hl => ?_)
          refine lv_iinc (k := 2) (v := nI (i + 1)) (lv' := [(6, .int (nI (i + 1))), (5, .int (nI (x ||| (2 ^ (mt_pl k i))))), (7, .int (nI (b i))), (0, .ref (md 0)), (1, .int (nI nn)), (2, .int (nI kk)), (3, .int (nI 0)), (4, .int (nI rw))]) hx hb d_MM_parts_76 hl rfl (by rw [lit1]; exact nI_1 _) (by decide) rfl (fun ls hl => ?_)
          refine lv_goto (tgt := 6) hx hb d_MM_parts_79 (by decide) ?_
          exact ih6 _ (by omega) (i + 1) (x ||| (2 ^ (mt_pl k i))) ls rfl (by omega) (mt_cz_t hx9 hc43 hkk (by rw [Nat.mod_eq_of_lt (by have := (hw i (by omega)).2.1 (by omega) (by omega); omega)] at hc54; exact hc54)) (lv_sub hl [0, 1, 3, 4, 5, 6, 7] rfl)
  exact lp6 _ 0 0 ls rfl (Nat.zero_le _) (rfl) (lv_sub hl [0, 1, 2, 3, 4, 5, 6] rfl)

set_option maxHeartbeats 4000000 in
set_option maxRecDepth 100000 in
theorem c_MM_number {g : gG} {md : Nat → Nat} {J : Nat → Nat → Int32} {n v kn pr ar : Nat} {X : Nat → Int64} {k a b : Nat → Nat} {nn : Nat} {l : Launch} (hT : mt_MT J nn k a b) (hn13 : nn ≤ 13) (hw : mt_wf k a b nn) :
    gc_RV (S := Nat → Int32) l y_MM_number (gx_ws y_MM_number b_MM_number 3 none) 0 0 g [.ref (md 0), .int (nI nn)] (mW g md J n v kn pr ar X) (fun (u : Nat → Int32) => mW g md (va_up J 9 u) n v kn (mt_ct k 1 nn) (mt_ct k 2 nn) X) (fun (u : Nat → Int32) => ∀ t, t < nn → u t = nI (mt_pl k t)) := by
  refine gx_body (by decide) (Nat.le_of_ble_eq_true rfl) ?_
  intro p e s m below meth c ls hAt hB hl
  obtain ⟨hx, hb, hml, hown, hts, hr, hlk, hnm⟩ := hAt
  have hown : s.vm.findClass R_MM = some m.cls := hown
  obtain ⟨⟨hP, hG⟩, hD0⟩ := hB
  have hD := gx_D.self hD0
  have hS : va_S (gx_in (mW g md J n v kn pr ar X)) s.heap s.heap [] := va_S.rf
  have hl : lv_has ls 3 [(0, .ref (md 0)), (1, .int (nI nn))] := hl
  refine lv_aload_n hx hb d_MM_number_0 rfl (lv_at hl 0 rfl) ?_
  refine lv_iconst (v := nI 0) hx hb d_MM_number_1 (by decide) ?_
  refine va_put (D := g.1) (own := R_MM) (ref := R_MM) (ci := 5) (v := .int (nI 0)) (ty := .int) (C := R_MM) (T := F_MM) (N := 16) hx hb hts in_MM t_MM t_MM_ok n_MM hown hG.1 hP hD hS 0 rfl rfl 13 (by decide) (hts _ wd_396) (fun _ h9 => h9) rfl (by decide +kernel) rfl rfl (Nat.le_of_ble_eq_true rfl) d_MM_number_2 (fun H locs hP hD hS => ?_)
  have hP : va_P g.1 gx_cl (mW g md J n v kn 0 ar X) H := hP
  have hD : va_D (gx_in (mW g md J n v kn pr ar X)) (mW g md J n v kn 0 ar X) := hD
  refine lv_aload_n hx hb d_MM_number_5 rfl (lv_at hl 0 rfl) ?_
  refine lv_iconst (v := nI 0) hx hb d_MM_number_6 (by decide) ?_
  refine va_put (D := g.1) (own := R_MM) (ref := R_MM) (ci := 5) (v := .int (nI 0)) (ty := .int) (C := R_MM) (T := F_MM) (N := 16) hx hb hts in_MM t_MM t_MM_ok n_MM hown hG.1 hP hD hS 0 rfl rfl 14 (by decide) (hts _ wd_397) (fun _ h9 => h9) rfl (by decide +kernel) rfl rfl (Nat.le_of_ble_eq_true rfl) d_MM_number_7 (fun H locs hP hD hS => ?_)
  have hP : va_P g.1 gx_cl (mW g md J n v kn 0 0 X) H := hP
  have hD : va_D (gx_in (mW g md J n v kn pr ar X)) (mW g md J n v kn 0 0 X) := hD
  refine lv_iconst (v := nI 0) hx hb d_MM_number_10 (by decide) ?_
  refine lv_istore_n (lv' := [(2, .int (nI 0)), (0, .ref (md 0)), (1, .int (nI nn))]) hx hb d_MM_number_11 rfl hl (by decide) rfl (fun ls hl => ?_)
  have lp12 : ∀ (d : Nat) (i : Nat) (F : Nat → Int32) (ls : Array Slot) (H : Heap) (locs : List Loc), d = nn - i → (i ≤ nn) → (∀ t, t < i → F t = nI (mt_pl k t)) → lv_has ls 3 [(2, .int (nI i)), (0, .ref (md 0)), (1, .int (nI nn))] → va_P g.1 gx_cl (mW g md (va_up J 9 F) n v kn (mt_ct k 1 i) (mt_ct k 2 i) X) H → va_D (gx_in (mW g md J n v kn pr ar X)) (mW g md (va_up J 9 F) n v kn (mt_ct k 1 i) (mt_ct k 2 i) X) → va_S (gx_in (mW g md J n v kn pr ar X)) s.heap H locs → W p l e (gx_rm 0 0) s m ([.ref (md 0), .int (nI nn)] : List Value).toArray below meth c H locs 0 0 (MQ below (va_Qv (fun (u : Nat → Int32) => ∀ t, t < nn → u t = nI (mt_pl k t)) (fun u9 t9 => va_P g.1 gx_cl ((fun (u : Nat → Int32) => mW g md (va_up J 9 u) n v kn (mt_ct k 1 nn) (mt_ct k 2 nn) X) u9) t9.heap ∧ va_D (gx_in (mW g md J n v kn pr ar X)) ((fun (u : Nat → Int32) => mW g md (va_up J 9 u) n v kn (mt_ct k 1 nn) (mt_ct k 2 nn) X) u9)) (gx_in (mW g md J n v kn pr ar X))) ([.ref (md 0), .int (nI nn)] : List Value).toArray s 0 0 (gx_in (mW g md J n v kn pr ar X))) (F0 m 12 ls []) := by
    intro d
    induction d using Nat.strongRecOn with
    | ind d ih12 =>
    intro i F ls H locs hd hi hF hl hP hD hS
    refine lv_iload_n hx hb d_MM_number_12 rfl (lv_at hl 0 rfl) ?_
    refine lv_iload_n hx hb d_MM_number_13 rfl (lv_at hl 2 rfl) ?_
    refine lv_icmp_ge (tgt := 104) hx hb d_MM_number_14 (by decide) (mt_le (by omega) (by omega) fun hc14 => ?_) (mt_nle (by omega) (by omega) fun hc14 => ?_)
    · ---- 14T
      have hin : i = nn := by omega
      subst hin
      exact gc_retv (u := F) (Wf := fun (u : Nat → Int32) => mW g md (va_up J 9 u) n v kn (mt_ct k 1 i) (mt_ct k 2 i) X) (post := fun (u : Nat → Int32) => ∀ t, t < i → u t = nI (mt_pl k t)) hx hb hr hlk hF hP hD hS d_MM_number_104
    · ---- 14F
      have hk7 : k i = 0 ∨ k i = 1 ∨ k i = 2 ∨ k i = 3 ∨ k i = 4 ∨ k i = 5 ∨ k i = 6 := by have := (hw i (by omega)).1; omega
      rcases hk7 with hkv | hkv | hkv | hkv | hkv | hkv | hkv
      · ---- 14F k0
        refine lv_aload_n hx hb d_MM_number_17 rfl (lv_at hl 1 rfl) ?_
        refine va_get (D := g.1) (own := R_MM) (ref := R_MM) (ci := 5) (v := .ref (md 11)) (C := R_MM) (T := F_MM) (N := 16) hx hb hts in_MM hown hG.1 hP 0 rfl rfl 15 (by decide) (hts _ wd_398) (fun _ h9 => h9) rfl d_MM_number_18 ?_
        refine lv_iload_n hx hb d_MM_number_21 rfl (lv_at hl 0 rfl) ?_
        refine lv_aload_n hx hb d_MM_number_22 rfl (lv_at hl 1 rfl) ?_
        refine va_get (D := g.1) (own := R_MM) (ref := R_MM) (ci := 5) (v := .ref (md 1)) (C := R_MM) (T := F_MM) (N := 16) hx hb hts in_MM hown hG.1 hP 0 rfl rfl 1 (by decide) (hts _ wd_384) (fun _ h9 => h9) rfl d_MM_number_23 ?_
        refine lv_iload_n hx hb d_MM_number_26 rfl (lv_at hl 0 rfl) ?_
        refine va_iald hx hb hG.1 hP 1 0 rfl rfl (vp_in_nI (by omega) (by decide)) d_MM_number_27 ?_
        refine mt_ri (y := nI (k i)) (by rw [nI_clamp (by omega)]; exact (hT _ (by omega)).1) ?_
        refine mt_ri (y := nI 0) (by rw [hkv]) ?_
        refine lv_iconst (v := nI 1) hx hb d_MM_number_28 (by decide) ?_
        refine lv_icmp_ne (tgt := 39) hx hb d_MM_number_29 (by decide) (fun _ => ?_) (fun h9 => absurd h9 (by decide))
        refine lv_aload_n hx hb d_MM_number_39 rfl (lv_at hl 1 rfl) ?_
        refine va_get (D := g.1) (own := R_MM) (ref := R_MM) (ci := 5) (v := .int (nI (mt_ct k 2 i))) (C := R_MM) (T := F_MM) (N := 16) hx hb hts in_MM hown hG.1 hP 0 rfl rfl 14 (by decide) (hts _ wd_397) (fun _ h9 => h9) rfl d_MM_number_40 ?_
        refine va_iast hx hb hG.1 hP hD hS 11 0 rfl rfl (vp_in_nI (by omega) (by decide)) d_MM_number_43 (fun H locs hP hD hS => ?_)
        rw [nI_clamp (by omega)] at hP hD
        have hP : va_P g.1 gx_cl (mW g md (va_up J 9 (upd F i (nI (mt_ct k 2 i)))) n v kn (mt_ct k 1 i) (mt_ct k 2 i) X) H := hP
        have hD : va_D (gx_in (mW g md J n v kn pr ar X)) (mW g md (va_up J 9 (upd F i (nI (mt_ct k 2 i)))) n v kn (mt_ct k 1 i) (mt_ct k 2 i) X) := hD
        refine lv_aload_n hx hb d_MM_number_44 rfl (lv_at hl 1 rfl) ?_
        refine lv_aload_n hx hb d_MM_number_45 rfl (lv_at hl 1 rfl) ?_
        refine va_get (D := g.1) (own := R_MM) (ref := R_MM) (ci := 5) (v := .ref (md 1)) (C := R_MM) (T := F_MM) (N := 16) hx hb hts in_MM hown hG.1 hP 0 rfl rfl 1 (by decide) (hts _ wd_384) (fun _ h9 => h9) rfl d_MM_number_46 ?_
        refine lv_iload_n hx hb d_MM_number_49 rfl (lv_at hl 0 rfl) ?_
        refine va_iald hx hb hG.1 hP 1 0 rfl rfl (vp_in_nI (by omega) (by decide)) d_MM_number_50 ?_
        refine mt_ri (y := nI (k i)) (by rw [nI_clamp (by omega)]; exact (hT _ (by omega)).1) ?_
        refine mt_ri (y := nI 0) (by rw [hkv]) ?_
        refine lv_iconst (v := nI 1) hx hb d_MM_number_51 (by decide) ?_
        refine lv_icmp_ne (tgt := 64) hx hb d_MM_number_52 (by decide) (fun _ => ?_) (fun h9 => absurd h9 (by decide))
        refine lv_aload_n hx hb d_MM_number_64 rfl (lv_at hl 1 rfl) ?_
        refine va_get (D := g.1) (own := R_MM) (ref := R_MM) (ci := 5) (v := .int (nI (mt_ct k 1 i))) (C := R_MM) (T := F_MM) (N := 16) hx hb hts in_MM hown hG.1 hP 0 rfl rfl 13 (by decide) (hts _ wd_396) (fun _ h9 => h9) rfl d_MM_number_65 ?_
        refine va_put (D := g.1) (own := R_MM) (ref := R_MM) (ci := 5) (v := .int (nI (mt_ct k 1 i))) (ty := .int) (C := R_MM) (T := F_MM) (N := 16) hx hb hts in_MM t_MM t_MM_ok n_MM hown hG.1 hP hD hS 0 rfl rfl 13 (by decide) (hts _ wd_396) (fun _ h9 => h9) rfl (by decide +kernel) rfl rfl (Nat.le_of_ble_eq_true rfl) d_MM_number_68 (fun H locs hP hD hS => ?_)
        have hP : va_P g.1 gx_cl (mW g md (va_up J 9 (upd F i (nI (mt_ct k 2 i)))) n v kn (mt_ct k 1 i) (mt_ct k 2 i) X) H := hP
        have hD : va_D (gx_in (mW g md J n v kn pr ar X)) (mW g md (va_up J 9 (upd F i (nI (mt_ct k 2 i)))) n v kn (mt_ct k 1 i) (mt_ct k 2 i) X) := hD
        refine lv_aload_n hx hb d_MM_number_71 rfl (lv_at hl 1 rfl) ?_
        refine lv_aload_n hx hb d_MM_number_72 rfl (lv_at hl 1 rfl) ?_
        refine va_get (D := g.1) (own := R_MM) (ref := R_MM) (ci := 5) (v := .ref (md 1)) (C := R_MM) (T := F_MM) (N := 16) hx hb hts in_MM hown hG.1 hP 0 rfl rfl 1 (by decide) (hts _ wd_384) (fun _ h9 => h9) rfl d_MM_number_73 ?_
        refine lv_iload_n hx hb d_MM_number_76 rfl (lv_at hl 0 rfl) ?_
        refine va_iald hx hb hG.1 hP 1 0 rfl rfl (vp_in_nI (by omega) (by decide)) d_MM_number_77 ?_
        refine mt_ri (y := nI (k i)) (by rw [nI_clamp (by omega)]; exact (hT _ (by omega)).1) ?_
        refine mt_ri (y := nI 0) (by rw [hkv]) ?_
        refine lv_iconst (v := nI 2) hx hb d_MM_number_78 (by decide) ?_
        refine lv_icmp_ne (tgt := 91) hx hb d_MM_number_79 (by decide) (fun _ => ?_) (fun h9 => absurd h9 (by decide))
        refine lv_aload_n hx hb d_MM_number_91 rfl (lv_at hl 1 rfl) ?_
        refine va_get (D := g.1) (own := R_MM) (ref := R_MM) (ci := 5) (v := .int (nI (mt_ct k 2 i))) (C := R_MM) (T := F_MM) (N := 16) hx hb hts in_MM hown hG.1 hP 0 rfl rfl 14 (by decide) (hts _ wd_397) (fun _ h9 => h9) rfl d_MM_number_92 ?_
        refine va_put (D := g.1) (own := R_MM) (ref := R_MM) (ci := 5) (v := .int (nI (mt_ct k 2 i))) (ty := .int) (C := R_MM) (T := F_MM) (N := 16) hx hb hts in_MM t_MM t_MM_ok n_MM hown hG.1 hP hD hS 0 rfl rfl 14 (by decide) (hts _ wd_397) (fun _ h9 => h9) rfl (by decide +kernel) rfl rfl (Nat.le_of_ble_eq_true rfl) d_MM_number_95 (fun H locs hP hD hS => ?_)
        have hP : va_P g.1 gx_cl (mW g md (va_up J 9 (upd F i (nI (mt_ct k 2 i)))) n v kn (mt_ct k 1 i) (mt_ct k 2 i) X) H := hP
        have hD : va_D (gx_in (mW g md J n v kn pr ar X)) (mW g md (va_up J 9 (upd F i (nI (mt_ct k 2 i)))) n v kn (mt_ct k 1 i) (mt_ct k 2 i) X) := hD
        have hp1 : mt_ct k 1 (i + 1) = mt_ct k 1 i := by simp [mt_ct, hkv]
        have hp2 : mt_ct k 2 (i + 1) = mt_ct k 2 i := by simp [mt_ct, hkv]
        have hP : va_P g.1 gx_cl (mW g md (va_up J 9 (upd F i (nI (mt_ct k 2 i)))) n v kn (mt_ct k 1 (i + 1)) (mt_ct k 2 (i + 1)) X) H := by rw [hp1, hp2]; exact hP
        have hD : va_D (gx_in (mW g md J n v kn pr ar X)) (mW g md (va_up J 9 (upd F i (nI (mt_ct k 2 i)))) n v kn (mt_ct k 1 (i + 1)) (mt_ct k 2 (i + 1)) X) := by rw [hp1, hp2]; exact hD
        refine lv_iinc (k := 0) (v := nI (i + 1)) (lv' := [(2, .int (nI (i + 1))), (0, .ref (md 0)), (1, .int (nI nn))]) hx hb d_MM_number_98 hl rfl (by rw [lit1]; exact nI_1 _) (by decide) rfl (fun ls hl => ?_)
        refine lv_goto (tgt := 12) hx hb d_MM_number_101 (by decide) ?_
        exact ih12 _ (by omega) (i + 1) (upd F i (nI (mt_ct k 2 i))) ls _ _ rfl (by omega) (mt_num_s hF (by simp [mt_pl, hkv])) (lv_sub hl [0, 1, 2] rfl) hP hD hS
      · ---- 14F k1
        refine lv_aload_n hx hb d_MM_number_17 rfl (lv_at hl 1 rfl) ?_
        refine va_get (D := g.1) (own := R_MM) (ref := R_MM) (ci := 5) (v := .ref (md 11)) (C := R_MM) (T := F_MM) (N := 16) hx hb hts in_MM hown hG.1 hP 0 rfl rfl 15 (by decide) (hts _ wd_398) (fun _ h9 => h9) rfl d_MM_number_18 ?_
        refine lv_iload_n hx hb d_MM_number_21 rfl (lv_at hl 0 rfl) ?_
        refine lv_aload_n hx hb d_MM_number_22 rfl (lv_at hl 1 rfl) ?_
        refine va_get (D := g.1) (own := R_MM) (ref := R_MM) (ci := 5) (v := .ref (md 1)) (C := R_MM) (T := F_MM) (N := 16) hx hb hts in_MM hown hG.1 hP 0 rfl rfl 1 (by decide) (hts _ wd_384) (fun _ h9 => h9) rfl d_MM_number_23 ?_
        refine lv_iload_n hx hb d_MM_number_26 rfl (lv_at hl 0 rfl) ?_
        refine va_iald hx hb hG.1 hP 1 0 rfl rfl (vp_in_nI (by omega) (by decide)) d_MM_number_27 ?_
        refine mt_ri (y := nI (k i)) (by rw [nI_clamp (by omega)]; exact (hT _ (by omega)).1) ?_
        refine mt_ri (y := nI 1) (by rw [hkv]) ?_
        refine lv_iconst (v := nI 1) hx hb d_MM_number_28 (by decide) ?_
        refine lv_icmp_ne (tgt := 39) hx hb d_MM_number_29 (by decide) (fun h9 => absurd h9 (by decide)) (fun _ => ?_)
        refine lv_aload_n hx hb d_MM_number_32 rfl (lv_at hl 1 rfl) ?_
        refine va_get (D := g.1) (own := R_MM) (ref := R_MM) (ci := 5) (v := .int (nI (mt_ct k 1 i))) (C := R_MM) (T := F_MM) (N := 16) hx hb hts in_MM hown hG.1 hP 0 rfl rfl 13 (by decide) (hts _ wd_396) (fun _ h9 => h9) rfl d_MM_number_33 ?_
        refine lv_goto (tgt := 43) hx hb d_MM_number_36 (by decide) ?_
        refine va_iast hx hb hG.1 hP hD hS 11 0 rfl rfl (vp_in_nI (by omega) (by decide)) d_MM_number_43 (fun H locs hP hD hS => ?_)
        rw [nI_clamp (by omega)] at hP hD
        have hP : va_P g.1 gx_cl (mW g md (va_up J 9 (upd F i (nI (mt_ct k 1 i)))) n v kn (mt_ct k 1 i) (mt_ct k 2 i) X) H := hP
        have hD : va_D (gx_in (mW g md J n v kn pr ar X)) (mW g md (va_up J 9 (upd F i (nI (mt_ct k 1 i)))) n v kn (mt_ct k 1 i) (mt_ct k 2 i) X) := hD
        refine lv_aload_n hx hb d_MM_number_44 rfl (lv_at hl 1 rfl) ?_
        refine lv_aload_n hx hb d_MM_number_45 rfl (lv_at hl 1 rfl) ?_
        refine va_get (D := g.1) (own := R_MM) (ref := R_MM) (ci := 5) (v := .ref (md 1)) (C := R_MM) (T := F_MM) (N := 16) hx hb hts in_MM hown hG.1 hP 0 rfl rfl 1 (by decide) (hts _ wd_384) (fun _ h9 => h9) rfl d_MM_number_46 ?_
        refine lv_iload_n hx hb d_MM_number_49 rfl (lv_at hl 0 rfl) ?_
        refine va_iald hx hb hG.1 hP 1 0 rfl rfl (vp_in_nI (by omega) (by decide)) d_MM_number_50 ?_
        refine mt_ri (y := nI (k i)) (by rw [nI_clamp (by omega)]; exact (hT _ (by omega)).1) ?_
        refine mt_ri (y := nI 1) (by rw [hkv]) ?_
        refine lv_iconst (v := nI 1) hx hb d_MM_number_51 (by decide) ?_
        refine lv_icmp_ne (tgt := 64) hx hb d_MM_number_52 (by decide) (fun h9 => absurd h9 (by decide)) (fun _ => ?_)
        refine lv_aload_n hx hb d_MM_number_55 rfl (lv_at hl 1 rfl) ?_
        refine va_get (D := g.1) (own := R_MM) (ref := R_MM) (ci := 5) (v := .int (nI (mt_ct k 1 i))) (C := R_MM) (T := F_MM) (N := 16) hx hb hts in_MM hown hG.1 hP 0 rfl rfl 13 (by decide) (hts _ wd_396) (fun _ h9 => h9) rfl d_MM_number_56 ?_
        refine lv_iconst (v := nI 1) hx hb d_MM_number_59 (by decide) ?_
        refine lv_iadd hx hb d_MM_number_60 ?_
        refine mt_ri (y := nI (mt_ct k 1 i + 1)) (nI_add _ _) ?_
        refine lv_goto (tgt := 68) hx hb d_MM_number_61 (by decide) ?_
        refine va_put (D := g.1) (own := R_MM) (ref := R_MM) (ci := 5) (v := .int (nI (mt_ct k 1 i + 1))) (ty := .int) (C := R_MM) (T := F_MM) (N := 16) hx hb hts in_MM t_MM t_MM_ok n_MM hown hG.1 hP hD hS 0 rfl rfl 13 (by decide) (hts _ wd_396) (fun _ h9 => h9) rfl (by decide +kernel) rfl rfl (Nat.le_of_ble_eq_true rfl) d_MM_number_68 (fun H locs hP hD hS => ?_)
        have hP : va_P g.1 gx_cl (mW g md (va_up J 9 (upd F i (nI (mt_ct k 1 i)))) n v kn (mt_ct k 1 i + 1) (mt_ct k 2 i) X) H := hP
        have hD : va_D (gx_in (mW g md J n v kn pr ar X)) (mW g md (va_up J 9 (upd F i (nI (mt_ct k 1 i)))) n v kn (mt_ct k 1 i + 1) (mt_ct k 2 i) X) := hD
        refine lv_aload_n hx hb d_MM_number_71 rfl (lv_at hl 1 rfl) ?_
        refine lv_aload_n hx hb d_MM_number_72 rfl (lv_at hl 1 rfl) ?_
        refine va_get (D := g.1) (own := R_MM) (ref := R_MM) (ci := 5) (v := .ref (md 1)) (C := R_MM) (T := F_MM) (N := 16) hx hb hts in_MM hown hG.1 hP 0 rfl rfl 1 (by decide) (hts _ wd_384) (fun _ h9 => h9) rfl d_MM_number_73 ?_
        refine lv_iload_n hx hb d_MM_number_76 rfl (lv_at hl 0 rfl) ?_
        refine va_iald hx hb hG.1 hP 1 0 rfl rfl (vp_in_nI (by omega) (by decide)) d_MM_number_77 ?_
        refine mt_ri (y := nI (k i)) (by rw [nI_clamp (by omega)]; exact (hT _ (by omega)).1) ?_
        refine mt_ri (y := nI 1) (by rw [hkv]) ?_
        refine lv_iconst (v := nI 2) hx hb d_MM_number_78 (by decide) ?_
        refine lv_icmp_ne (tgt := 91) hx hb d_MM_number_79 (by decide) (fun _ => ?_) (fun h9 => absurd h9 (by decide))
        refine lv_aload_n hx hb d_MM_number_91 rfl (lv_at hl 1 rfl) ?_
        refine va_get (D := g.1) (own := R_MM) (ref := R_MM) (ci := 5) (v := .int (nI (mt_ct k 2 i))) (C := R_MM) (T := F_MM) (N := 16) hx hb hts in_MM hown hG.1 hP 0 rfl rfl 14 (by decide) (hts _ wd_397) (fun _ h9 => h9) rfl d_MM_number_92 ?_
        refine va_put (D := g.1) (own := R_MM) (ref := R_MM) (ci := 5) (v := .int (nI (mt_ct k 2 i))) (ty := .int) (C := R_MM) (T := F_MM) (N := 16) hx hb hts in_MM t_MM t_MM_ok n_MM hown hG.1 hP hD hS 0 rfl rfl 14 (by decide) (hts _ wd_397) (fun _ h9 => h9) rfl (by decide +kernel) rfl rfl (Nat.le_of_ble_eq_true rfl) d_MM_number_95 (fun H locs hP hD hS => ?_)
        have hP : va_P g.1 gx_cl (mW g md (va_up J 9 (upd F i (nI (mt_ct k 1 i)))) n v kn (mt_ct k 1 i + 1) (mt_ct k 2 i) X) H := hP
        have hD : va_D (gx_in (mW g md J n v kn pr ar X)) (mW g md (va_up J 9 (upd F i (nI (mt_ct k 1 i)))) n v kn (mt_ct k 1 i + 1) (mt_ct k 2 i) X) := hD
        have hp1 : mt_ct k 1 (i + 1) = mt_ct k 1 i + 1 := by simp [mt_ct, hkv]
        have hp2 : mt_ct k 2 (i + 1) = mt_ct k 2 i := by simp [mt_ct, hkv]
        have hP : va_P g.1 gx_cl (mW g md (va_up J 9 (upd F i (nI (mt_ct k 1 i)))) n v kn (mt_ct k 1 (i + 1)) (mt_ct k 2 (i + 1)) X) H := by rw [hp1, hp2]; exact hP
        have hD : va_D (gx_in (mW g md J n v kn pr ar X)) (mW g md (va_up J 9 (upd F i (nI (mt_ct k 1 i)))) n v kn (mt_ct k 1 (i + 1)) (mt_ct k 2 (i + 1)) X) := by rw [hp1, hp2]; exact hD
        refine lv_iinc (k := 0) (v := nI (i + 1)) (lv' := [(2, .int (nI (i + 1))), (0, .ref (md 0)), (1, .int (nI nn))]) hx hb d_MM_number_98 hl rfl (by rw [lit1]; exact nI_1 _) (by decide) rfl (fun ls hl => ?_)
        refine lv_goto (tgt := 12) hx hb d_MM_number_101 (by decide) ?_
        exact ih12 _ (by omega) (i + 1) (upd F i (nI (mt_ct k 1 i))) ls _ _ rfl (by omega) (mt_num_s hF (by simp [mt_pl, hkv])) (lv_sub hl [0, 1, 2] rfl) hP hD hS
      · ---- 14F k2
        refine lv_aload_n hx hb d_MM_number_17 rfl (lv_at hl 1 rfl) ?_
        refine va_get (D := g.1) (own := R_MM) (ref := R_MM) (ci := 5) (v := .ref (md 11)) (C := R_MM) (T := F_MM) (N := 16) hx hb hts in_MM hown hG.1 hP 0 rfl rfl 15 (by decide) (hts _ wd_398) (fun _ h9 => h9) rfl d_MM_number_18 ?_
        refine lv_iload_n hx hb d_MM_number_21 rfl (lv_at hl 0 rfl) ?_
        refine lv_aload_n hx hb d_MM_number_22 rfl (lv_at hl 1 rfl) ?_
        refine va_get (D := g.1) (own := R_MM) (ref := R_MM) (ci := 5) (v := .ref (md 1)) (C := R_MM) (T := F_MM) (N := 16) hx hb hts in_MM hown hG.1 hP 0 rfl rfl 1 (by decide) (hts _ wd_384) (fun _ h9 => h9) rfl d_MM_number_23 ?_
        refine lv_iload_n hx hb d_MM_number_26 rfl (lv_at hl 0 rfl) ?_
        refine va_iald hx hb hG.1 hP 1 0 rfl rfl (vp_in_nI (by omega) (by decide)) d_MM_number_27 ?_
        refine mt_ri (y := nI (k i)) (by rw [nI_clamp (by omega)]; exact (hT _ (by omega)).1) ?_
        refine mt_ri (y := nI 2) (by rw [hkv]) ?_
        refine lv_iconst (v := nI 1) hx hb d_MM_number_28 (by decide) ?_
        refine lv_icmp_ne (tgt := 39) hx hb d_MM_number_29 (by decide) (fun _ => ?_) (fun h9 => absurd h9 (by decide))
        refine lv_aload_n hx hb d_MM_number_39 rfl (lv_at hl 1 rfl) ?_
        refine va_get (D := g.1) (own := R_MM) (ref := R_MM) (ci := 5) (v := .int (nI (mt_ct k 2 i))) (C := R_MM) (T := F_MM) (N := 16) hx hb hts in_MM hown hG.1 hP 0 rfl rfl 14 (by decide) (hts _ wd_397) (fun _ h9 => h9) rfl d_MM_number_40 ?_
        refine va_iast hx hb hG.1 hP hD hS 11 0 rfl rfl (vp_in_nI (by omega) (by decide)) d_MM_number_43 (fun H locs hP hD hS => ?_)
        rw [nI_clamp (by omega)] at hP hD
        have hP : va_P g.1 gx_cl (mW g md (va_up J 9 (upd F i (nI (mt_ct k 2 i)))) n v kn (mt_ct k 1 i) (mt_ct k 2 i) X) H := hP
        have hD : va_D (gx_in (mW g md J n v kn pr ar X)) (mW g md (va_up J 9 (upd F i (nI (mt_ct k 2 i)))) n v kn (mt_ct k 1 i) (mt_ct k 2 i) X) := hD
        refine lv_aload_n hx hb d_MM_number_44 rfl (lv_at hl 1 rfl) ?_
        refine lv_aload_n hx hb d_MM_number_45 rfl (lv_at hl 1 rfl) ?_
        refine va_get (D := g.1) (own := R_MM) (ref := R_MM) (ci := 5) (v := .ref (md 1)) (C := R_MM) (T := F_MM) (N := 16) hx hb hts in_MM hown hG.1 hP 0 rfl rfl 1 (by decide) (hts _ wd_384) (fun _ h9 => h9) rfl d_MM_number_46 ?_
        refine lv_iload_n hx hb d_MM_number_49 rfl (lv_at hl 0 rfl) ?_
        refine va_iald hx hb hG.1 hP 1 0 rfl rfl (vp_in_nI (by omega) (by decide)) d_MM_number_50 ?_
        refine mt_ri (y := nI (k i)) (by rw [nI_clamp (by omega)]; exact (hT _ (by omega)).1) ?_
        refine mt_ri (y := nI 2) (by rw [hkv]) ?_
        refine lv_iconst (v := nI 1) hx hb d_MM_number_51 (by decide) ?_
        refine lv_icmp_ne (tgt := 64) hx hb d_MM_number_52 (by decide) (fun _ => ?_) (fun h9 => absurd h9 (by decide))
        refine lv_aload_n hx hb d_MM_number_64 rfl (lv_at hl 1 rfl) ?_
        refine va_get (D := g.1) (own := R_MM) (ref := R_MM) (ci := 5) (v := .int (nI (mt_ct k 1 i))) (C := R_MM) (T := F_MM) (N := 16) hx hb hts in_MM hown hG.1 hP 0 rfl rfl 13 (by decide) (hts _ wd_396) (fun _ h9 => h9) rfl d_MM_number_65 ?_
        refine va_put (D := g.1) (own := R_MM) (ref := R_MM) (ci := 5) (v := .int (nI (mt_ct k 1 i))) (ty := .int) (C := R_MM) (T := F_MM) (N := 16) hx hb hts in_MM t_MM t_MM_ok n_MM hown hG.1 hP hD hS 0 rfl rfl 13 (by decide) (hts _ wd_396) (fun _ h9 => h9) rfl (by decide +kernel) rfl rfl (Nat.le_of_ble_eq_true rfl) d_MM_number_68 (fun H locs hP hD hS => ?_)
        have hP : va_P g.1 gx_cl (mW g md (va_up J 9 (upd F i (nI (mt_ct k 2 i)))) n v kn (mt_ct k 1 i) (mt_ct k 2 i) X) H := hP
        have hD : va_D (gx_in (mW g md J n v kn pr ar X)) (mW g md (va_up J 9 (upd F i (nI (mt_ct k 2 i)))) n v kn (mt_ct k 1 i) (mt_ct k 2 i) X) := hD
        refine lv_aload_n hx hb d_MM_number_71 rfl (lv_at hl 1 rfl) ?_
        refine lv_aload_n hx hb d_MM_number_72 rfl (lv_at hl 1 rfl) ?_
        refine va_get (D := g.1) (own := R_MM) (ref := R_MM) (ci := 5) (v := .ref (md 1)) (C := R_MM) (T := F_MM) (N := 16) hx hb hts in_MM hown hG.1 hP 0 rfl rfl 1 (by decide) (hts _ wd_384) (fun _ h9 => h9) rfl d_MM_number_73 ?_
        refine lv_iload_n hx hb d_MM_number_76 rfl (lv_at hl 0 rfl) ?_
        refine va_iald hx hb hG.1 hP 1 0 rfl rfl (vp_in_nI (by omega) (by decide)) d_MM_number_77 ?_
        refine mt_ri (y := nI (k i)) (by rw [nI_clamp (by omega)]; exact (hT _ (by omega)).1) ?_
        refine mt_ri (y := nI 2) (by rw [hkv]) ?_
        refine lv_iconst (v := nI 2) hx hb d_MM_number_78 (by decide) ?_
        refine lv_icmp_ne (tgt := 91) hx hb d_MM_number_79 (by decide) (fun h9 => absurd h9 (by decide)) (fun _ => ?_)
        refine lv_aload_n hx hb d_MM_number_82 rfl (lv_at hl 1 rfl) ?_
        refine va_get (D := g.1) (own := R_MM) (ref := R_MM) (ci := 5) (v := .int (nI (mt_ct k 2 i))) (C := R_MM) (T := F_MM) (N := 16) hx hb hts in_MM hown hG.1 hP 0 rfl rfl 14 (by decide) (hts _ wd_397) (fun _ h9 => h9) rfl d_MM_number_83 ?_
        refine lv_iconst (v := nI 1) hx hb d_MM_number_86 (by decide) ?_
        refine lv_iadd hx hb d_MM_number_87 ?_
        refine mt_ri (y := nI (mt_ct k 2 i + 1)) (nI_add _ _) ?_
        refine lv_goto (tgt := 95) hx hb d_MM_number_88 (by decide) ?_
        refine va_put (D := g.1) (own := R_MM) (ref := R_MM) (ci := 5) (v := .int (nI (mt_ct k 2 i + 1))) (ty := .int) (C := R_MM) (T := F_MM) (N := 16) hx hb hts in_MM t_MM t_MM_ok n_MM hown hG.1 hP hD hS 0 rfl rfl 14 (by decide) (hts _ wd_397) (fun _ h9 => h9) rfl (by decide +kernel) rfl rfl (Nat.le_of_ble_eq_true rfl) d_MM_number_95 (fun H locs hP hD hS => ?_)
        have hP : va_P g.1 gx_cl (mW g md (va_up J 9 (upd F i (nI (mt_ct k 2 i)))) n v kn (mt_ct k 1 i) (mt_ct k 2 i + 1) X) H := hP
        have hD : va_D (gx_in (mW g md J n v kn pr ar X)) (mW g md (va_up J 9 (upd F i (nI (mt_ct k 2 i)))) n v kn (mt_ct k 1 i) (mt_ct k 2 i + 1) X) := hD
        have hp1 : mt_ct k 1 (i + 1) = mt_ct k 1 i := by simp [mt_ct, hkv]
        have hp2 : mt_ct k 2 (i + 1) = mt_ct k 2 i + 1 := by simp [mt_ct, hkv]
        have hP : va_P g.1 gx_cl (mW g md (va_up J 9 (upd F i (nI (mt_ct k 2 i)))) n v kn (mt_ct k 1 (i + 1)) (mt_ct k 2 (i + 1)) X) H := by rw [hp1, hp2]; exact hP
        have hD : va_D (gx_in (mW g md J n v kn pr ar X)) (mW g md (va_up J 9 (upd F i (nI (mt_ct k 2 i)))) n v kn (mt_ct k 1 (i + 1)) (mt_ct k 2 (i + 1)) X) := by rw [hp1, hp2]; exact hD
        refine lv_iinc (k := 0) (v := nI (i + 1)) (lv' := [(2, .int (nI (i + 1))), (0, .ref (md 0)), (1, .int (nI nn))]) hx hb d_MM_number_98 hl rfl (by rw [lit1]; exact nI_1 _) (by decide) rfl (fun ls hl => ?_)
        refine lv_goto (tgt := 12) hx hb d_MM_number_101 (by decide) ?_
        exact ih12 _ (by omega) (i + 1) (upd F i (nI (mt_ct k 2 i))) ls _ _ rfl (by omega) (mt_num_s hF (by simp [mt_pl, hkv])) (lv_sub hl [0, 1, 2] rfl) hP hD hS
      · ---- 14F k3
        refine lv_aload_n hx hb d_MM_number_17 rfl (lv_at hl 1 rfl) ?_
        refine va_get (D := g.1) (own := R_MM) (ref := R_MM) (ci := 5) (v := .ref (md 11)) (C := R_MM) (T := F_MM) (N := 16) hx hb hts in_MM hown hG.1 hP 0 rfl rfl 15 (by decide) (hts _ wd_398) (fun _ h9 => h9) rfl d_MM_number_18 ?_
        refine lv_iload_n hx hb d_MM_number_21 rfl (lv_at hl 0 rfl) ?_
        refine lv_aload_n hx hb d_MM_number_22 rfl (lv_at hl 1 rfl) ?_
        refine va_get (D := g.1) (own := R_MM) (ref := R_MM) (ci := 5) (v := .ref (md 1)) (C := R_MM) (T := F_MM) (N := 16) hx hb hts in_MM hown hG.1 hP 0 rfl rfl 1 (by decide) (hts _ wd_384) (fun _ h9 => h9) rfl d_MM_number_23 ?_
        refine lv_iload_n hx hb d_MM_number_26 rfl (lv_at hl 0 rfl) ?_
        refine va_iald hx hb hG.1 hP 1 0 rfl rfl (vp_in_nI (by omega) (by decide)) d_MM_number_27 ?_
        refine mt_ri (y := nI (k i)) (by rw [nI_clamp (by omega)]; exact (hT _ (by omega)).1) ?_
        refine mt_ri (y := nI 3) (by rw [hkv]) ?_
        refine lv_iconst (v := nI 1) hx hb d_MM_number_28 (by decide) ?_
        refine lv_icmp_ne (tgt := 39) hx hb d_MM_number_29 (by decide) (fun _ => ?_) (fun h9 => absurd h9 (by decide))
        refine lv_aload_n hx hb d_MM_number_39 rfl (lv_at hl 1 rfl) ?_
        refine va_get (D := g.1) (own := R_MM) (ref := R_MM) (ci := 5) (v := .int (nI (mt_ct k 2 i))) (C := R_MM) (T := F_MM) (N := 16) hx hb hts in_MM hown hG.1 hP 0 rfl rfl 14 (by decide) (hts _ wd_397) (fun _ h9 => h9) rfl d_MM_number_40 ?_
        refine va_iast hx hb hG.1 hP hD hS 11 0 rfl rfl (vp_in_nI (by omega) (by decide)) d_MM_number_43 (fun H locs hP hD hS => ?_)
        rw [nI_clamp (by omega)] at hP hD
        have hP : va_P g.1 gx_cl (mW g md (va_up J 9 (upd F i (nI (mt_ct k 2 i)))) n v kn (mt_ct k 1 i) (mt_ct k 2 i) X) H := hP
        have hD : va_D (gx_in (mW g md J n v kn pr ar X)) (mW g md (va_up J 9 (upd F i (nI (mt_ct k 2 i)))) n v kn (mt_ct k 1 i) (mt_ct k 2 i) X) := hD
        refine lv_aload_n hx hb d_MM_number_44 rfl (lv_at hl 1 rfl) ?_
        refine lv_aload_n hx hb d_MM_number_45 rfl (lv_at hl 1 rfl) ?_
        refine va_get (D := g.1) (own := R_MM) (ref := R_MM) (ci := 5) (v := .ref (md 1)) (C := R_MM) (T := F_MM) (N := 16) hx hb hts in_MM hown hG.1 hP 0 rfl rfl 1 (by decide) (hts _ wd_384) (fun _ h9 => h9) rfl d_MM_number_46 ?_
        refine lv_iload_n hx hb d_MM_number_49 rfl (lv_at hl 0 rfl) ?_
        refine va_iald hx hb hG.1 hP 1 0 rfl rfl (vp_in_nI (by omega) (by decide)) d_MM_number_50 ?_
        refine mt_ri (y := nI (k i)) (by rw [nI_clamp (by omega)]; exact (hT _ (by omega)).1) ?_
        refine mt_ri (y := nI 3) (by rw [hkv]) ?_
        refine lv_iconst (v := nI 1) hx hb d_MM_number_51 (by decide) ?_
        refine lv_icmp_ne (tgt := 64) hx hb d_MM_number_52 (by decide) (fun _ => ?_) (fun h9 => absurd h9 (by decide))
        refine lv_aload_n hx hb d_MM_number_64 rfl (lv_at hl 1 rfl) ?_
        refine va_get (D := g.1) (own := R_MM) (ref := R_MM) (ci := 5) (v := .int (nI (mt_ct k 1 i))) (C := R_MM) (T := F_MM) (N := 16) hx hb hts in_MM hown hG.1 hP 0 rfl rfl 13 (by decide) (hts _ wd_396) (fun _ h9 => h9) rfl d_MM_number_65 ?_
        refine va_put (D := g.1) (own := R_MM) (ref := R_MM) (ci := 5) (v := .int (nI (mt_ct k 1 i))) (ty := .int) (C := R_MM) (T := F_MM) (N := 16) hx hb hts in_MM t_MM t_MM_ok n_MM hown hG.1 hP hD hS 0 rfl rfl 13 (by decide) (hts _ wd_396) (fun _ h9 => h9) rfl (by decide +kernel) rfl rfl (Nat.le_of_ble_eq_true rfl) d_MM_number_68 (fun H locs hP hD hS => ?_)
        have hP : va_P g.1 gx_cl (mW g md (va_up J 9 (upd F i (nI (mt_ct k 2 i)))) n v kn (mt_ct k 1 i) (mt_ct k 2 i) X) H := hP
        have hD : va_D (gx_in (mW g md J n v kn pr ar X)) (mW g md (va_up J 9 (upd F i (nI (mt_ct k 2 i)))) n v kn (mt_ct k 1 i) (mt_ct k 2 i) X) := hD
        refine lv_aload_n hx hb d_MM_number_71 rfl (lv_at hl 1 rfl) ?_
        refine lv_aload_n hx hb d_MM_number_72 rfl (lv_at hl 1 rfl) ?_
        refine va_get (D := g.1) (own := R_MM) (ref := R_MM) (ci := 5) (v := .ref (md 1)) (C := R_MM) (T := F_MM) (N := 16) hx hb hts in_MM hown hG.1 hP 0 rfl rfl 1 (by decide) (hts _ wd_384) (fun _ h9 => h9) rfl d_MM_number_73 ?_
        refine lv_iload_n hx hb d_MM_number_76 rfl (lv_at hl 0 rfl) ?_
        refine va_iald hx hb hG.1 hP 1 0 rfl rfl (vp_in_nI (by omega) (by decide)) d_MM_number_77 ?_
        refine mt_ri (y := nI (k i)) (by rw [nI_clamp (by omega)]; exact (hT _ (by omega)).1) ?_
        refine mt_ri (y := nI 3) (by rw [hkv]) ?_
        refine lv_iconst (v := nI 2) hx hb d_MM_number_78 (by decide) ?_
        refine lv_icmp_ne (tgt := 91) hx hb d_MM_number_79 (by decide) (fun _ => ?_) (fun h9 => absurd h9 (by decide))
        refine lv_aload_n hx hb d_MM_number_91 rfl (lv_at hl 1 rfl) ?_
        refine va_get (D := g.1) (own := R_MM) (ref := R_MM) (ci := 5) (v := .int (nI (mt_ct k 2 i))) (C := R_MM) (T := F_MM) (N := 16) hx hb hts in_MM hown hG.1 hP 0 rfl rfl 14 (by decide) (hts _ wd_397) (fun _ h9 => h9) rfl d_MM_number_92 ?_
        refine va_put (D := g.1) (own := R_MM) (ref := R_MM) (ci := 5) (v := .int (nI (mt_ct k 2 i))) (ty := .int) (C := R_MM) (T := F_MM) (N := 16) hx hb hts in_MM t_MM t_MM_ok n_MM hown hG.1 hP hD hS 0 rfl rfl 14 (by decide) (hts _ wd_397) (fun _ h9 => h9) rfl (by decide +kernel) rfl rfl (Nat.le_of_ble_eq_true rfl) d_MM_number_95 (fun H locs hP hD hS => ?_)
        have hP : va_P g.1 gx_cl (mW g md (va_up J 9 (upd F i (nI (mt_ct k 2 i)))) n v kn (mt_ct k 1 i) (mt_ct k 2 i) X) H := hP
        have hD : va_D (gx_in (mW g md J n v kn pr ar X)) (mW g md (va_up J 9 (upd F i (nI (mt_ct k 2 i)))) n v kn (mt_ct k 1 i) (mt_ct k 2 i) X) := hD
        have hp1 : mt_ct k 1 (i + 1) = mt_ct k 1 i := by simp [mt_ct, hkv]
        have hp2 : mt_ct k 2 (i + 1) = mt_ct k 2 i := by simp [mt_ct, hkv]
        have hP : va_P g.1 gx_cl (mW g md (va_up J 9 (upd F i (nI (mt_ct k 2 i)))) n v kn (mt_ct k 1 (i + 1)) (mt_ct k 2 (i + 1)) X) H := by rw [hp1, hp2]; exact hP
        have hD : va_D (gx_in (mW g md J n v kn pr ar X)) (mW g md (va_up J 9 (upd F i (nI (mt_ct k 2 i)))) n v kn (mt_ct k 1 (i + 1)) (mt_ct k 2 (i + 1)) X) := by rw [hp1, hp2]; exact hD
        refine lv_iinc (k := 0) (v := nI (i + 1)) (lv' := [(2, .int (nI (i + 1))), (0, .ref (md 0)), (1, .int (nI nn))]) hx hb d_MM_number_98 hl rfl (by rw [lit1]; exact nI_1 _) (by decide) rfl (fun ls hl => ?_)
        refine lv_goto (tgt := 12) hx hb d_MM_number_101 (by decide) ?_
        exact ih12 _ (by omega) (i + 1) (upd F i (nI (mt_ct k 2 i))) ls _ _ rfl (by omega) (mt_num_s hF (by simp [mt_pl, hkv])) (lv_sub hl [0, 1, 2] rfl) hP hD hS
      · ---- 14F k4
        refine lv_aload_n hx hb d_MM_number_17 rfl (lv_at hl 1 rfl) ?_
        refine va_get (D := g.1) (own := R_MM) (ref := R_MM) (ci := 5) (v := .ref (md 11)) (C := R_MM) (T := F_MM) (N := 16) hx hb hts in_MM hown hG.1 hP 0 rfl rfl 15 (by decide) (hts _ wd_398) (fun _ h9 => h9) rfl d_MM_number_18 ?_
        refine lv_iload_n hx hb d_MM_number_21 rfl (lv_at hl 0 rfl) ?_
        refine lv_aload_n hx hb d_MM_number_22 rfl (lv_at hl 1 rfl) ?_
        refine va_get (D := g.1) (own := R_MM) (ref := R_MM) (ci := 5) (v := .ref (md 1)) (C := R_MM) (T := F_MM) (N := 16) hx hb hts in_MM hown hG.1 hP 0 rfl rfl 1 (by decide) (hts _ wd_384) (fun _ h9 => h9) rfl d_MM_number_23 ?_
        refine lv_iload_n hx hb d_MM_number_26 rfl (lv_at hl 0 rfl) ?_
        refine va_iald hx hb hG.1 hP 1 0 rfl rfl (vp_in_nI (by omega) (by decide)) d_MM_number_27 ?_
        refine mt_ri (y := nI (k i)) (by rw [nI_clamp (by omega)]; exact (hT _ (by omega)).1) ?_
        refine mt_ri (y := nI 4) (by rw [hkv]) ?_
        refine lv_iconst (v := nI 1) hx hb d_MM_number_28 (by decide) ?_
        refine lv_icmp_ne (tgt := 39) hx hb d_MM_number_29 (by decide) (fun _ => ?_) (fun h9 => absurd h9 (by decide))
        refine lv_aload_n hx hb d_MM_number_39 rfl (lv_at hl 1 rfl) ?_
        refine va_get (D := g.1) (own := R_MM) (ref := R_MM) (ci := 5) (v := .int (nI (mt_ct k 2 i))) (C := R_MM) (T := F_MM) (N := 16) hx hb hts in_MM hown hG.1 hP 0 rfl rfl 14 (by decide) (hts _ wd_397) (fun _ h9 => h9) rfl d_MM_number_40 ?_
        refine va_iast hx hb hG.1 hP hD hS 11 0 rfl rfl (vp_in_nI (by omega) (by decide)) d_MM_number_43 (fun H locs hP hD hS => ?_)
        rw [nI_clamp (by omega)] at hP hD
        have hP : va_P g.1 gx_cl (mW g md (va_up J 9 (upd F i (nI (mt_ct k 2 i)))) n v kn (mt_ct k 1 i) (mt_ct k 2 i) X) H := hP
        have hD : va_D (gx_in (mW g md J n v kn pr ar X)) (mW g md (va_up J 9 (upd F i (nI (mt_ct k 2 i)))) n v kn (mt_ct k 1 i) (mt_ct k 2 i) X) := hD
        refine lv_aload_n hx hb d_MM_number_44 rfl (lv_at hl 1 rfl) ?_
        refine lv_aload_n hx hb d_MM_number_45 rfl (lv_at hl 1 rfl) ?_
        refine va_get (D := g.1) (own := R_MM) (ref := R_MM) (ci := 5) (v := .ref (md 1)) (C := R_MM) (T := F_MM) (N := 16) hx hb hts in_MM hown hG.1 hP 0 rfl rfl 1 (by decide) (hts _ wd_384) (fun _ h9 => h9) rfl d_MM_number_46 ?_
        refine lv_iload_n hx hb d_MM_number_49 rfl (lv_at hl 0 rfl) ?_
        refine va_iald hx hb hG.1 hP 1 0 rfl rfl (vp_in_nI (by omega) (by decide)) d_MM_number_50 ?_
        refine mt_ri (y := nI (k i)) (by rw [nI_clamp (by omega)]; exact (hT _ (by omega)).1) ?_
        refine mt_ri (y := nI 4) (by rw [hkv]) ?_
        refine lv_iconst (v := nI 1) hx hb d_MM_number_51 (by decide) ?_
        refine lv_icmp_ne (tgt := 64) hx hb d_MM_number_52 (by decide) (fun _ => ?_) (fun h9 => absurd h9 (by decide))
        refine lv_aload_n hx hb d_MM_number_64 rfl (lv_at hl 1 rfl) ?_
        refine va_get (D := g.1) (own := R_MM) (ref := R_MM) (ci := 5) (v := .int (nI (mt_ct k 1 i))) (C := R_MM) (T := F_MM) (N := 16) hx hb hts in_MM hown hG.1 hP 0 rfl rfl 13 (by decide) (hts _ wd_396) (fun _ h9 => h9) rfl d_MM_number_65 ?_
        refine va_put (D := g.1) (own := R_MM) (ref := R_MM) (ci := 5) (v := .int (nI (mt_ct k 1 i))) (ty := .int) (C := R_MM) (T := F_MM) (N := 16) hx hb hts in_MM t_MM t_MM_ok n_MM hown hG.1 hP hD hS 0 rfl rfl 13 (by decide) (hts _ wd_396) (fun _ h9 => h9) rfl (by decide +kernel) rfl rfl (Nat.le_of_ble_eq_true rfl) d_MM_number_68 (fun H locs hP hD hS => ?_)
        have hP : va_P g.1 gx_cl (mW g md (va_up J 9 (upd F i (nI (mt_ct k 2 i)))) n v kn (mt_ct k 1 i) (mt_ct k 2 i) X) H := hP
        have hD : va_D (gx_in (mW g md J n v kn pr ar X)) (mW g md (va_up J 9 (upd F i (nI (mt_ct k 2 i)))) n v kn (mt_ct k 1 i) (mt_ct k 2 i) X) := hD
        refine lv_aload_n hx hb d_MM_number_71 rfl (lv_at hl 1 rfl) ?_
        refine lv_aload_n hx hb d_MM_number_72 rfl (lv_at hl 1 rfl) ?_
        refine va_get (D := g.1) (own := R_MM) (ref := R_MM) (ci := 5) (v := .ref (md 1)) (C := R_MM) (T := F_MM) (N := 16) hx hb hts in_MM hown hG.1 hP 0 rfl rfl 1 (by decide) (hts _ wd_384) (fun _ h9 => h9) rfl d_MM_number_73 ?_
        refine lv_iload_n hx hb d_MM_number_76 rfl (lv_at hl 0 rfl) ?_
        refine va_iald hx hb hG.1 hP 1 0 rfl rfl (vp_in_nI (by omega) (by decide)) d_MM_number_77 ?_
        refine mt_ri (y := nI (k i)) (by rw [nI_clamp (by omega)]; exact (hT _ (by omega)).1) ?_
        refine mt_ri (y := nI 4) (by rw [hkv]) ?_
        refine lv_iconst (v := nI 2) hx hb d_MM_number_78 (by decide) ?_
        refine lv_icmp_ne (tgt := 91) hx hb d_MM_number_79 (by decide) (fun _ => ?_) (fun h9 => absurd h9 (by decide))
        refine lv_aload_n hx hb d_MM_number_91 rfl (lv_at hl 1 rfl) ?_
        refine va_get (D := g.1) (own := R_MM) (ref := R_MM) (ci := 5) (v := .int (nI (mt_ct k 2 i))) (C := R_MM) (T := F_MM) (N := 16) hx hb hts in_MM hown hG.1 hP 0 rfl rfl 14 (by decide) (hts _ wd_397) (fun _ h9 => h9) rfl d_MM_number_92 ?_
        refine va_put (D := g.1) (own := R_MM) (ref := R_MM) (ci := 5) (v := .int (nI (mt_ct k 2 i))) (ty := .int) (C := R_MM) (T := F_MM) (N := 16) hx hb hts in_MM t_MM t_MM_ok n_MM hown hG.1 hP hD hS 0 rfl rfl 14 (by decide) (hts _ wd_397) (fun _ h9 => h9) rfl (by decide +kernel) rfl rfl (Nat.le_of_ble_eq_true rfl) d_MM_number_95 (fun H locs hP hD hS => ?_)
        have hP : va_P g.1 gx_cl (mW g md (va_up J 9 (upd F i (nI (mt_ct k 2 i)))) n v kn (mt_ct k 1 i) (mt_ct k 2 i) X) H := hP
        have hD : va_D (gx_in (mW g md J n v kn pr ar X)) (mW g md (va_up J 9 (upd F i (nI (mt_ct k 2 i)))) n v kn (mt_ct k 1 i) (mt_ct k 2 i) X) := hD
        have hp1 : mt_ct k 1 (i + 1) = mt_ct k 1 i := by simp [mt_ct, hkv]
        have hp2 : mt_ct k 2 (i + 1) = mt_ct k 2 i := by simp [mt_ct, hkv]
        have hP : va_P g.1 gx_cl (mW g md (va_up J 9 (upd F i (nI (mt_ct k 2 i)))) n v kn (mt_ct k 1 (i + 1)) (mt_ct k 2 (i + 1)) X) H := by rw [hp1, hp2]; exact hP
        have hD : va_D (gx_in (mW g md J n v kn pr ar X)) (mW g md (va_up J 9 (upd F i (nI (mt_ct k 2 i)))) n v kn (mt_ct k 1 (i + 1)) (mt_ct k 2 (i + 1)) X) := by rw [hp1, hp2]; exact hD
        refine lv_iinc (k := 0) (v := nI (i + 1)) (lv' := [(2, .int (nI (i + 1))), (0, .ref (md 0)), (1, .int (nI nn))]) hx hb d_MM_number_98 hl rfl (by rw [lit1]; exact nI_1 _) (by decide) rfl (fun ls hl => ?_)
        refine lv_goto (tgt := 12) hx hb d_MM_number_101 (by decide) ?_
        exact ih12 _ (by omega) (i + 1) (upd F i (nI (mt_ct k 2 i))) ls _ _ rfl (by omega) (mt_num_s hF (by simp [mt_pl, hkv])) (lv_sub hl [0, 1, 2] rfl) hP hD hS
      · ---- 14F k5
        refine lv_aload_n hx hb d_MM_number_17 rfl (lv_at hl 1 rfl) ?_
        refine va_get (D := g.1) (own := R_MM) (ref := R_MM) (ci := 5) (v := .ref (md 11)) (C := R_MM) (T := F_MM) (N := 16) hx hb hts in_MM hown hG.1 hP 0 rfl rfl 15 (by decide) (hts _ wd_398) (fun _ h9 => h9) rfl d_MM_number_18 ?_
        refine lv_iload_n hx hb d_MM_number_21 rfl (lv_at hl 0 rfl) ?_
        refine lv_aload_n hx hb d_MM_number_22 rfl (lv_at hl 1 rfl) ?_
        refine va_get (D := g.1) (own := R_MM) (ref := R_MM) (ci := 5) (v := .ref (md 1)) (C := R_MM) (T := F_MM) (N := 16) hx hb hts in_MM hown hG.1 hP 0 rfl rfl 1 (by decide) (hts _ wd_384) (fun _ h9 => h9) rfl d_MM_number_23 ?_
        refine lv_iload_n hx hb d_MM_number_26 rfl (lv_at hl 0 rfl) ?_
        refine va_iald hx hb hG.1 hP 1 0 rfl rfl (vp_in_nI (by omega) (by decide)) d_MM_number_27 ?_
        refine mt_ri (y := nI (k i)) (by rw [nI_clamp (by omega)]; exact (hT _ (by omega)).1) ?_
        refine mt_ri (y := nI 5) (by rw [hkv]) ?_
        refine lv_iconst (v := nI 1) hx hb d_MM_number_28 (by decide) ?_
        refine lv_icmp_ne (tgt := 39) hx hb d_MM_number_29 (by decide) (fun _ => ?_) (fun h9 => absurd h9 (by decide))
        refine lv_aload_n hx hb d_MM_number_39 rfl (lv_at hl 1 rfl) ?_
        refine va_get (D := g.1) (own := R_MM) (ref := R_MM) (ci := 5) (v := .int (nI (mt_ct k 2 i))) (C := R_MM) (T := F_MM) (N := 16) hx hb hts in_MM hown hG.1 hP 0 rfl rfl 14 (by decide) (hts _ wd_397) (fun _ h9 => h9) rfl d_MM_number_40 ?_
        refine va_iast hx hb hG.1 hP hD hS 11 0 rfl rfl (vp_in_nI (by omega) (by decide)) d_MM_number_43 (fun H locs hP hD hS => ?_)
        rw [nI_clamp (by omega)] at hP hD
        have hP : va_P g.1 gx_cl (mW g md (va_up J 9 (upd F i (nI (mt_ct k 2 i)))) n v kn (mt_ct k 1 i) (mt_ct k 2 i) X) H := hP
        have hD : va_D (gx_in (mW g md J n v kn pr ar X)) (mW g md (va_up J 9 (upd F i (nI (mt_ct k 2 i)))) n v kn (mt_ct k 1 i) (mt_ct k 2 i) X) := hD
        refine lv_aload_n hx hb d_MM_number_44 rfl (lv_at hl 1 rfl) ?_
        refine lv_aload_n hx hb d_MM_number_45 rfl (lv_at hl 1 rfl) ?_
        refine va_get (D := g.1) (own := R_MM) (ref := R_MM) (ci := 5) (v := .ref (md 1)) (C := R_MM) (T := F_MM) (N := 16) hx hb hts in_MM hown hG.1 hP 0 rfl rfl 1 (by decide) (hts _ wd_384) (fun _ h9 => h9) rfl d_MM_number_46 ?_
        refine lv_iload_n hx hb d_MM_number_49 rfl (lv_at hl 0 rfl) ?_
        refine va_iald hx hb hG.1 hP 1 0 rfl rfl (vp_in_nI (by omega) (by decide)) d_MM_number_50 ?_
        refine mt_ri (y := nI (k i)) (by rw [nI_clamp (by omega)]; exact (hT _ (by omega)).1) ?_
        refine mt_ri (y := nI 5) (by rw [hkv]) ?_
        refine lv_iconst (v := nI 1) hx hb d_MM_number_51 (by decide) ?_
        refine lv_icmp_ne (tgt := 64) hx hb d_MM_number_52 (by decide) (fun _ => ?_) (fun h9 => absurd h9 (by decide))
        refine lv_aload_n hx hb d_MM_number_64 rfl (lv_at hl 1 rfl) ?_
        refine va_get (D := g.1) (own := R_MM) (ref := R_MM) (ci := 5) (v := .int (nI (mt_ct k 1 i))) (C := R_MM) (T := F_MM) (N := 16) hx hb hts in_MM hown hG.1 hP 0 rfl rfl 13 (by decide) (hts _ wd_396) (fun _ h9 => h9) rfl d_MM_number_65 ?_
        refine va_put (D := g.1) (own := R_MM) (ref := R_MM) (ci := 5) (v := .int (nI (mt_ct k 1 i))) (ty := .int) (C := R_MM) (T := F_MM) (N := 16) hx hb hts in_MM t_MM t_MM_ok n_MM hown hG.1 hP hD hS 0 rfl rfl 13 (by decide) (hts _ wd_396) (fun _ h9 => h9) rfl (by decide +kernel) rfl rfl (Nat.le_of_ble_eq_true rfl) d_MM_number_68 (fun H locs hP hD hS => ?_)
        have hP : va_P g.1 gx_cl (mW g md (va_up J 9 (upd F i (nI (mt_ct k 2 i)))) n v kn (mt_ct k 1 i) (mt_ct k 2 i) X) H := hP
        have hD : va_D (gx_in (mW g md J n v kn pr ar X)) (mW g md (va_up J 9 (upd F i (nI (mt_ct k 2 i)))) n v kn (mt_ct k 1 i) (mt_ct k 2 i) X) := hD
        refine lv_aload_n hx hb d_MM_number_71 rfl (lv_at hl 1 rfl) ?_
        refine lv_aload_n hx hb d_MM_number_72 rfl (lv_at hl 1 rfl) ?_
        refine va_get (D := g.1) (own := R_MM) (ref := R_MM) (ci := 5) (v := .ref (md 1)) (C := R_MM) (T := F_MM) (N := 16) hx hb hts in_MM hown hG.1 hP 0 rfl rfl 1 (by decide) (hts _ wd_384) (fun _ h9 => h9) rfl d_MM_number_73 ?_
        refine lv_iload_n hx hb d_MM_number_76 rfl (lv_at hl 0 rfl) ?_
        refine va_iald hx hb hG.1 hP 1 0 rfl rfl (vp_in_nI (by omega) (by decide)) d_MM_number_77 ?_
        refine mt_ri (y := nI (k i)) (by rw [nI_clamp (by omega)]; exact (hT _ (by omega)).1) ?_
        refine mt_ri (y := nI 5) (by rw [hkv]) ?_
        refine lv_iconst (v := nI 2) hx hb d_MM_number_78 (by decide) ?_
        refine lv_icmp_ne (tgt := 91) hx hb d_MM_number_79 (by decide) (fun _ => ?_) (fun h9 => absurd h9 (by decide))
        refine lv_aload_n hx hb d_MM_number_91 rfl (lv_at hl 1 rfl) ?_
        refine va_get (D := g.1) (own := R_MM) (ref := R_MM) (ci := 5) (v := .int (nI (mt_ct k 2 i))) (C := R_MM) (T := F_MM) (N := 16) hx hb hts in_MM hown hG.1 hP 0 rfl rfl 14 (by decide) (hts _ wd_397) (fun _ h9 => h9) rfl d_MM_number_92 ?_
        refine va_put (D := g.1) (own := R_MM) (ref := R_MM) (ci := 5) (v := .int (nI (mt_ct k 2 i))) (ty := .int) (C := R_MM) (T := F_MM) (N := 16) hx hb hts in_MM t_MM t_MM_ok n_MM hown hG.1 hP hD hS 0 rfl rfl 14 (by decide) (hts _ wd_397) (fun _ h9 => h9) rfl (by decide +kernel) rfl rfl (Nat.le_of_ble_eq_true rfl) d_MM_number_95 (fun H locs hP hD hS => ?_)
        have hP : va_P g.1 gx_cl (mW g md (va_up J 9 (upd F i (nI (mt_ct k 2 i)))) n v kn (mt_ct k 1 i) (mt_ct k 2 i) X) H := hP
        have hD : va_D (gx_in (mW g md J n v kn pr ar X)) (mW g md (va_up J 9 (upd F i (nI (mt_ct k 2 i)))) n v kn (mt_ct k 1 i) (mt_ct k 2 i) X) := hD
        have hp1 : mt_ct k 1 (i + 1) = mt_ct k 1 i := by simp [mt_ct, hkv]
        have hp2 : mt_ct k 2 (i + 1) = mt_ct k 2 i := by simp [mt_ct, hkv]
        have hP : va_P g.1 gx_cl (mW g md (va_up J 9 (upd F i (nI (mt_ct k 2 i)))) n v kn (mt_ct k 1 (i + 1)) (mt_ct k 2 (i + 1)) X) H := by rw [hp1, hp2]; exact hP
        have hD : va_D (gx_in (mW g md J n v kn pr ar X)) (mW g md (va_up J 9 (upd F i (nI (mt_ct k 2 i)))) n v kn (mt_ct k 1 (i + 1)) (mt_ct k 2 (i + 1)) X) := by rw [hp1, hp2]; exact hD
        refine lv_iinc (k := 0) (v := nI (i + 1)) (lv' := [(2, .int (nI (i + 1))), (0, .ref (md 0)), (1, .int (nI nn))]) hx hb d_MM_number_98 hl rfl (by rw [lit1]; exact nI_1 _) (by decide) rfl (fun ls hl => ?_)
        refine lv_goto (tgt := 12) hx hb d_MM_number_101 (by decide) ?_
        exact ih12 _ (by omega) (i + 1) (upd F i (nI (mt_ct k 2 i))) ls _ _ rfl (by omega) (mt_num_s hF (by simp [mt_pl, hkv])) (lv_sub hl [0, 1, 2] rfl) hP hD hS
      · ---- 14F k6
        refine lv_aload_n hx hb d_MM_number_17 rfl (lv_at hl 1 rfl) ?_
        refine va_get (D := g.1) (own := R_MM) (ref := R_MM) (ci := 5) (v := .ref (md 11)) (C := R_MM) (T := F_MM) (N := 16) hx hb hts in_MM hown hG.1 hP 0 rfl rfl 15 (by decide) (hts _ wd_398) (fun _ h9 => h9) rfl d_MM_number_18 ?_
        refine lv_iload_n hx hb d_MM_number_21 rfl (lv_at hl 0 rfl) ?_
        refine lv_aload_n hx hb d_MM_number_22 rfl (lv_at hl 1 rfl) ?_
        refine va_get (D := g.1) (own := R_MM) (ref := R_MM) (ci := 5) (v := .ref (md 1)) (C := R_MM) (T := F_MM) (N := 16) hx hb hts in_MM hown hG.1 hP 0 rfl rfl 1 (by decide) (hts _ wd_384) (fun _ h9 => h9) rfl d_MM_number_23 ?_
        refine lv_iload_n hx hb d_MM_number_26 rfl (lv_at hl 0 rfl) ?_
        refine va_iald hx hb hG.1 hP 1 0 rfl rfl (vp_in_nI (by omega) (by decide)) d_MM_number_27 ?_
        refine mt_ri (y := nI (k i)) (by rw [nI_clamp (by omega)]; exact (hT _ (by omega)).1) ?_
        refine mt_ri (y := nI 6) (by rw [hkv]) ?_
        refine lv_iconst (v := nI 1) hx hb d_MM_number_28 (by decide) ?_
        refine lv_icmp_ne (tgt := 39) hx hb d_MM_number_29 (by decide) (fun _ => ?_) (fun h9 => absurd h9 (by decide))
        refine lv_aload_n hx hb d_MM_number_39 rfl (lv_at hl 1 rfl) ?_
        refine va_get (D := g.1) (own := R_MM) (ref := R_MM) (ci := 5) (v := .int (nI (mt_ct k 2 i))) (C := R_MM) (T := F_MM) (N := 16) hx hb hts in_MM hown hG.1 hP 0 rfl rfl 14 (by decide) (hts _ wd_397) (fun _ h9 => h9) rfl d_MM_number_40 ?_
        refine va_iast hx hb hG.1 hP hD hS 11 0 rfl rfl (vp_in_nI (by omega) (by decide)) d_MM_number_43 (fun H locs hP hD hS => ?_)
        rw [nI_clamp (by omega)] at hP hD
        have hP : va_P g.1 gx_cl (mW g md (va_up J 9 (upd F i (nI (mt_ct k 2 i)))) n v kn (mt_ct k 1 i) (mt_ct k 2 i) X) H := hP
        have hD : va_D (gx_in (mW g md J n v kn pr ar X)) (mW g md (va_up J 9 (upd F i (nI (mt_ct k 2 i)))) n v kn (mt_ct k 1 i) (mt_ct k 2 i) X) := hD
        refine lv_aload_n hx hb d_MM_number_44 rfl (lv_at hl 1 rfl) ?_
        refine lv_aload_n hx hb d_MM_number_45 rfl (lv_at hl 1 rfl) ?_
        refine va_get (D := g.1) (own := R_MM) (ref := R_MM) (ci := 5) (v := .ref (md 1)) (C := R_MM) (T := F_MM) (N := 16) hx hb hts in_MM hown hG.1 hP 0 rfl rfl 1 (by decide) (hts _ wd_384) (fun _ h9 => h9) rfl d_MM_number_46 ?_
        refine lv_iload_n hx hb d_MM_number_49 rfl (lv_at hl 0 rfl) ?_
        refine va_iald hx hb hG.1 hP 1 0 rfl rfl (vp_in_nI (by omega) (by decide)) d_MM_number_50 ?_
        refine mt_ri (y := nI (k i)) (by rw [nI_clamp (by omega)]; exact (hT _ (by omega)).1) ?_
        refine mt_ri (y := nI 6) (by rw [hkv]) ?_
        refine lv_iconst (v := nI 1) hx hb d_MM_number_51 (by decide) ?_
        refine lv_icmp_ne (tgt := 64) hx hb d_MM_number_52 (by decide) (fun _ => ?_) (fun h9 => absurd h9 (by decide))
        refine lv_aload_n hx hb d_MM_number_64 rfl (lv_at hl 1 rfl) ?_
        refine va_get (D := g.1) (own := R_MM) (ref := R_MM) (ci := 5) (v := .int (nI (mt_ct k 1 i))) (C := R_MM) (T := F_MM) (N := 16) hx hb hts in_MM hown hG.1 hP 0 rfl rfl 13 (by decide) (hts _ wd_396) (fun _ h9 => h9) rfl d_MM_number_65 ?_
        refine va_put (D := g.1) (own := R_MM) (ref := R_MM) (ci := 5) (v := .int (nI (mt_ct k 1 i))) (ty := .int) (C := R_MM) (T := F_MM) (N := 16) hx hb hts in_MM t_MM t_MM_ok n_MM hown hG.1 hP hD hS 0 rfl rfl 13 (by decide) (hts _ wd_396) (fun _ h9 => h9) rfl (by decide +kernel) rfl rfl (Nat.le_of_ble_eq_true rfl) d_MM_number_68 (fun H locs hP hD hS => ?_)
        have hP : va_P g.1 gx_cl (mW g md (va_up J 9 (upd F i (nI (mt_ct k 2 i)))) n v kn (mt_ct k 1 i) (mt_ct k 2 i) X) H := hP
        have hD : va_D (gx_in (mW g md J n v kn pr ar X)) (mW g md (va_up J 9 (upd F i (nI (mt_ct k 2 i)))) n v kn (mt_ct k 1 i) (mt_ct k 2 i) X) := hD
        refine lv_aload_n hx hb d_MM_number_71 rfl (lv_at hl 1 rfl) ?_
        refine lv_aload_n hx hb d_MM_number_72 rfl (lv_at hl 1 rfl) ?_
        refine va_get (D := g.1) (own := R_MM) (ref := R_MM) (ci := 5) (v := .ref (md 1)) (C := R_MM) (T := F_MM) (N := 16) hx hb hts in_MM hown hG.1 hP 0 rfl rfl 1 (by decide) (hts _ wd_384) (fun _ h9 => h9) rfl d_MM_number_73 ?_
        refine lv_iload_n hx hb d_MM_number_76 rfl (lv_at hl 0 rfl) ?_
        refine va_iald hx hb hG.1 hP 1 0 rfl rfl (vp_in_nI (by omega) (by decide)) d_MM_number_77 ?_
        refine mt_ri (y := nI (k i)) (by rw [nI_clamp (by omega)]; exact (hT _ (by omega)).1) ?_
        refine mt_ri (y := nI 6) (by rw [hkv]) ?_
        refine lv_iconst (v := nI 2) hx hb d_MM_number_78 (by decide) ?_
        refine lv_icmp_ne (tgt := 91) hx hb d_MM_number_79 (by decide) (fun _ => ?_) (fun h9 => absurd h9 (by decide))
        refine lv_aload_n hx hb d_MM_number_91 rfl (lv_at hl 1 rfl) ?_
        refine va_get (D := g.1) (own := R_MM) (ref := R_MM) (ci := 5) (v := .int (nI (mt_ct k 2 i))) (C := R_MM) (T := F_MM) (N := 16) hx hb hts in_MM hown hG.1 hP 0 rfl rfl 14 (by decide) (hts _ wd_397) (fun _ h9 => h9) rfl d_MM_number_92 ?_
        refine va_put (D := g.1) (own := R_MM) (ref := R_MM) (ci := 5) (v := .int (nI (mt_ct k 2 i))) (ty := .int) (C := R_MM) (T := F_MM) (N := 16) hx hb hts in_MM t_MM t_MM_ok n_MM hown hG.1 hP hD hS 0 rfl rfl 14 (by decide) (hts _ wd_397) (fun _ h9 => h9) rfl (by decide +kernel) rfl rfl (Nat.le_of_ble_eq_true rfl) d_MM_number_95 (fun H locs hP hD hS => ?_)
        have hP : va_P g.1 gx_cl (mW g md (va_up J 9 (upd F i (nI (mt_ct k 2 i)))) n v kn (mt_ct k 1 i) (mt_ct k 2 i) X) H := hP
        have hD : va_D (gx_in (mW g md J n v kn pr ar X)) (mW g md (va_up J 9 (upd F i (nI (mt_ct k 2 i)))) n v kn (mt_ct k 1 i) (mt_ct k 2 i) X) := hD
        have hp1 : mt_ct k 1 (i + 1) = mt_ct k 1 i := by simp [mt_ct, hkv]
        have hp2 : mt_ct k 2 (i + 1) = mt_ct k 2 i := by simp [mt_ct, hkv]
        have hP : va_P g.1 gx_cl (mW g md (va_up J 9 (upd F i (nI (mt_ct k 2 i)))) n v kn (mt_ct k 1 (i + 1)) (mt_ct k 2 (i + 1)) X) H := by rw [hp1, hp2]; exact hP
        have hD : va_D (gx_in (mW g md J n v kn pr ar X)) (mW g md (va_up J 9 (upd F i (nI (mt_ct k 2 i)))) n v kn (mt_ct k 1 (i + 1)) (mt_ct k 2 (i + 1)) X) := by rw [hp1, hp2]; exact hD
        refine lv_iinc (k := 0) (v := nI (i + 1)) (lv' := [(2, .int (nI (i + 1))), (0, .ref (md 0)), (1, .int (nI nn))]) hx hb d_MM_number_98 hl rfl (by rw [lit1]; exact nI_1 _) (by decide) rfl (fun ls hl => ?_)
        refine lv_goto (tgt := 12) hx hb d_MM_number_101 (by decide) ?_
        exact ih12 _ (by omega) (i + 1) (upd F i (nI (mt_ct k 2 i))) ls _ _ rfl (by omega) (mt_num_s hF (by simp [mt_pl, hkv])) (lv_sub hl [0, 1, 2] rfl) hP hD hS
  have hP := (show va_P g.1 gx_cl (mW g md (va_up J 9 (J 9)) n v kn 0 0 X) _ by rw [va_up_id]; exact hP)
  have hD := (show va_D (gx_in (mW g md J n v kn pr ar X)) (mW g md (va_up J 9 (J 9)) n v kn 0 0 X) by rw [va_up_id]; exact hD)
  exact lp12 _ 0 (J 9) ls _ _ rfl (Nat.zero_le _) (fun t ht => absurd ht (by omega)) (lv_sub hl [0, 1, 2] rfl) hP hD hS
