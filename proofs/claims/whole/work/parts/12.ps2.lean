set_option maxHeartbeats 4000000 in
set_option maxRecDepth 100000 in
theorem c_PS_nextFrom {g : gG} {o w cp u : Nat} {f : Nat → Int64} {i : Nat} {l : Launch} (hi64 : i ≤ 64 * u) (hcp : u ≤ cp) (hcp2 : cp ≤ 128) :
    gc_RO l y_PS_nextFrom (gx_ws y_PS_nextFrom b_PS_nextFrom 6 (some .int)) 1 21 g [.ref o, .int (nI i)] (pW g o w cp u f) (fun r => ∃ k, r = nI k ∧ mt_nx (mt_el u f) (64 * u) i k) := by
  refine gx_body (by decide) (Nat.le_of_ble_eq_true rfl) ?_
  intro p e s m below meth c ls hAt hB hl
  obtain ⟨hx, hb, hml, hown, hts, hr, hlk, hnm⟩ := hAt
  have hown : s.vm.findClass R_PS = some m.cls := hown
  obtain ⟨hP, hG⟩ := hB
  have hl : lv_has ls 6 [(0, .ref o), (1, .int (nI i))] := hl
  refine lv_iload_n hx hb d_PS_nextFrom_0 rfl (lv_at hl 1 rfl) ?_
  refine lv_bipush (v := nI 6) hx hb d_PS_nextFrom_1 (by decide) ?_
  refine lv_ishr hx hb d_PS_nextFrom_3 ?_
  refine mt_ri (y := nI (i / 64)) (pk_shrN (by omega) _ 6 (by decide)) ?_
  refine lv_istore_n (lv' := [(2, .int (nI (i / 64))), (0, .ref o), (1, .int (nI i))]) hx hb d_PS_nextFrom_4 rfl hl (by decide) rfl (fun ls hl => ?_)
  refine lv_iload_n hx hb d_PS_nextFrom_5 rfl (lv_at hl 0 rfl) ?_
  refine lv_istore_n (lv' := [(3, .int (nI (i / 64))), (2, .int (nI (i / 64))), (0, .ref o), (1, .int (nI i))]) hx hb d_PS_nextFrom_6 rfl hl (by decide) rfl (fun ls hl => ?_)
  have lp7 : ∀ (d : Nat) (j : Nat) (ls : Array Slot), d = u - j → (i / 64 ≤ j) → (j ≤ u ∨ j = i / 64) → (∀ x, i ≤ x → x < 64 * j → ¬ mt_bt f x) → lv_has ls 6 [(3, .int (nI j)), (2, .int (nI (i / 64))), (0, .ref o), (1, .int (nI i))] → W p l e (gx_rm 1 21) s m ([.ref o, .int (nI i)] : List Value).toArray below meth c s.heap [] 0 0 (MQ below (vp_Si (fun r => ∃ k, r = nI k ∧ mt_nx (mt_el u f) (64 * u) i k)) ([.ref o, .int (nI i)] : List Value).toArray s 0 0 (fun _ => False)) (F0 m 7 ls []) := by
    intro d
    induction d using Nat.strongRecOn with
    | ind d ih7 =>
    intro j ls hd hj1 hj2 h0 hl
    refine lv_iload_n hx hb d_PS_nextFrom_7 rfl (lv_at hl 0 rfl) ?_
    refine lv_aload_n hx hb d_PS_nextFrom_8 rfl (lv_at hl 2 rfl) ?_
    refine va_get (D := g.1) (own := R_PS) (ref := R_PS) (ci := 0) (v := .int (nI u)) (C := R_PS) (T := F_PS) (N := 3) hx hb hts in_PS hown hG.1 hP 0 rfl rfl 1 (by decide) (hts _ wd_68) (fun _ h9 => h9) rfl d_PS_nextFrom_9 ?_
    refine lv_icmp_ge (tgt := 79) hx hb d_PS_nextFrom_12 (by decide) (mt_le (by omega) (by omega) fun hc12 => ?_) (mt_nle (by omega) (by omega) fun hc12 => ?_)
    · ---- 12T
      refine lv_aload_n hx hb d_PS_nextFrom_79 rfl (lv_at hl 2 rfl) ?_
      refine va_get (D := g.1) (own := R_PS) (ref := R_PS) (ci := 0) (v := .int (nI (64 * u))) (C := R_PS) (T := F_PS) (N := 3) hx hb hts in_PS hown hG.1 hP 0 rfl rfl 2 (by decide) (hts _ wd_69) (fun _ h9 => h9) rfl d_PS_nextFrom_80 ?_
      exact gc_reti (post := fun r => ∃ k, r = nI k ∧ mt_nx (mt_el u f) (64 * u) i k) hx hb hr hlk (⟨64 * u, rfl, mt_nx_end hi64 (fun x h1 h2 => h0 x h1 (by omega))⟩) d_PS_nextFrom_83
    · ---- 12F
      have ct44 : ∀ (rest : Int64), (∀ t, t < 64 → mt_lb rest t = (mt_lb (f j) t && decide (i ≤ 64 * j + t))) → W p l e (gx_rm 1 21) s m ([.ref o, .int (nI i)] : List Value).toArray below meth c s.heap [] 0 0 (MQ below (vp_Si (fun r => ∃ k, r = nI k ∧ mt_nx (mt_el u f) (64 * u) i k)) ([.ref o, .int (nI i)] : List Value).toArray s 0 0 (fun _ => False)) (F0 m 44 ls [.long rest]) := by
        intro rest hrest
        refine lv_lstore (lv' := [(4, .long rest), (3, .int (nI j)), (2, .int (nI (i / 64))), (0, .ref o), (1, .int (nI i))]) hx hb d_PS_nextFrom_44 hl (by decide) rfl (fun ls hl => ?_)
        refine lv_lload hx hb d_PS_nextFrom_46 (lv_at hl 0 rfl) ?_
        refine lv_lconst (v := 0) hx hb d_PS_nextFrom_48 (by decide) ?_
        refine W.lcmp hx hb d_PS_nextFrom_49 ?_
        refine lv_if_eq (tgt := 73) hx hb d_PS_nextFrom_50 (by decide) (mt_c0 fun hc50 => ?_) (mt_nc0 fun hc50 => ?_)
        · ---- 50T
          refine lv_iinc (k := 1) (v := nI (j + 1)) (lv' := [(3, .int (nI (j + 1))), (4, .long rest), (2, .int (nI (i / 64))), (0, .ref o), (1, .int (nI i))]) hx hb d_PS_nextFrom_73 hl rfl (by rw [lit1]; exact nI_1 _) (by decide) rfl (fun ls hl => ?_)
          refine lv_goto (tgt := 7) hx hb d_PS_nextFrom_76 (by decide) ?_
          exact ih7 _ (by omega) (j + 1) ls rfl (by omega) (by omega) (mt_nx_zero h0 hrest hc50) (lv_sub hl [0, 2, 3, 4] rfl)
        · ---- 50F
          obtain ⟨z, hz1, hz2, hz3, hz4⟩ := mt_low hc50
          refine lv_iload_n hx hb d_PS_nextFrom_53 rfl (lv_at hl 1 rfl) ?_
          refine lv_bipush (v := nI 6) hx hb d_PS_nextFrom_54 (by decide) ?_
          refine lv_ishl hx hb d_PS_nextFrom_56 ?_
          refine mt_ri (y := nI (j * 64)) (pk_shlN _ 6 (by decide) (by omega)) ?_
          refine lv_lload hx hb d_PS_nextFrom_57 (lv_at hl 0 rfl) ?_
          refine lv_lconst (v := 1) hx hb d_PS_nextFrom_59 (by decide) ?_
          refine lv_lsub hx hb d_PS_nextFrom_60 ?_
          refine lv_lload hx hb d_PS_nextFrom_61 (lv_at hl 0 rfl) ?_
          refine lv_ldc2 (v := (-1)) hx hb hown (hts _ wd_204) d_PS_nextFrom_63 ?_
          refine lv_lxor hx hb d_PS_nextFrom_66 ?_
          refine lv_land hx hb d_PS_nextFrom_67 ?_
          refine mt_rl (y := lN (2 ^ z - 1)) hz4 ?_
          refine vp_callSi (va_runS (own := R_PS) (As := [.long (lN (2 ^ z - 1))]) (rest := [.int (nI (j * 64))]) ⟨hx, hb, hml, hown, hts⟩ (c_JL_bitCount (l := l) (g := g) (x := lN (2 ^ z - 1))) (va_cwS 1 hts (gx_goodS wd_205 wd_206 wd_8 wd_207) rfl rfl rfl (by decide +kernel) ⟨Nat.le_of_ble_eq_true rfl, Nat.le_of_ble_eq_true rfl⟩) (gc_preS (ws := []) (fun _ _ h => by cases h) hG) rfl rfl hl.1 rfl (lv_room (Nat.le_of_ble_eq_true rfl)) d_PS_nextFrom_68 ⟨Nat.le_refl _, Nat.le_refl _⟩).run (fun r hr68 => ?_)
          subst hr68
          refine mt_ri (y := nI z) (mt_bc64_is z hz1) ?_
          refine lv_iadd hx hb d_PS_nextFrom_71 ?_
          refine mt_ri (y := nI (j * 64 + z)) (nI_add _ _) ?_
          exact gc_reti (post := fun r => ∃ k, r = nI k ∧ mt_nx (mt_el u f) (64 * u) i k) hx hb hr hlk (⟨j * 64 + z, rfl, mt_nx_word (by omega) (by omega) h0 hrest hz1 hz2 hz3⟩) d_PS_nextFrom_72
      refine lv_iload_n hx hb d_PS_nextFrom_15 rfl (lv_at hl 0 rfl) ?_
      refine lv_iload_n hx hb d_PS_nextFrom_16 rfl (lv_at hl 1 rfl) ?_
      refine lv_icmp_ne (tgt := 38) hx hb d_PS_nextFrom_17 (by decide) (mt_ne (by omega) (by omega) fun hc17 => ?_) (mt_eq (by omega) (by omega) fun hc17 => ?_)
      · ---- 12F 17T
        refine lv_aload_n hx hb d_PS_nextFrom_38 rfl (lv_at hl 2 rfl) ?_
        refine va_get (D := g.1) (own := R_PS) (ref := R_PS) (ci := 0) (v := .ref w) (C := R_PS) (T := F_PS) (N := 3) hx hb hts in_PS hown hG.1 hP 0 rfl rfl 0 (by decide) (hts _ wd_67) (fun _ h9 => h9) rfl d_PS_nextFrom_39 ?_
        refine lv_iload_n hx hb d_PS_nextFrom_42 rfl (lv_at hl 0 rfl) ?_
        refine va_lald hx hb hG.1 hP 1 2 rfl rfl (vp_in_nI (by omega) (by omega)) d_PS_nextFrom_43 ?_
        refine mt_rl (y := f j) (by rw [nI_clamp (by omega)]) ?_
        exact ct44 _ (fun t _ => mt_nx_later (by omega) t)
      · ---- 12F 17F
        refine lv_aload_n hx hb d_PS_nextFrom_20 rfl (lv_at hl 2 rfl) ?_
        refine va_get (D := g.1) (own := R_PS) (ref := R_PS) (ci := 0) (v := .ref w) (C := R_PS) (T := F_PS) (N := 3) hx hb hts in_PS hown hG.1 hP 0 rfl rfl 0 (by decide) (hts _ wd_67) (fun _ h9 => h9) rfl d_PS_nextFrom_21 ?_
        refine lv_iload_n hx hb d_PS_nextFrom_24 rfl (lv_at hl 0 rfl) ?_
        refine va_lald hx hb hG.1 hP 1 2 rfl rfl (vp_in_nI (by omega) (by omega)) d_PS_nextFrom_25 ?_
        refine mt_rl (y := f j) (by rw [nI_clamp (by omega)]) ?_
        refine lv_ldc2 (v := (-1)) hx hb hown (hts _ wd_204) d_PS_nextFrom_26 ?_
        refine lv_iload_n hx hb d_PS_nextFrom_29 rfl (lv_at hl 3 rfl) ?_
        refine lv_bipush (v := nI 63) hx hb d_PS_nextFrom_30 (by decide) ?_
        refine lv_iand hx hb d_PS_nextFrom_32 ?_
        refine mt_ri (y := nI (i % 64)) (pk_andN (by omega) 6 (by decide)) ?_
        refine lv_lshl (v := ((-1)) <<< ((nI (i % 64)).toInt64 &&& 63)) hx hb d_PS_nextFrom_33 rfl ?_
        refine lv_land hx hb d_PS_nextFrom_34 ?_
        refine lv_goto (tgt := 44) hx hb d_PS_nextFrom_35 (by decide) ?_
        exact ct44 _ (by rw [hc17]; exact mt_nx_first)
  exact lp7 _ (i / 64) ls rfl (Nat.le_refl _) (Or.inr rfl) (fun x h1 h2 => absurd h2 (by omega)) (lv_sub hl [0, 1, 2, 3] rfl)
