set_option maxHeartbeats 4000000 in
set_option maxRecDepth 100000 in
theorem c_MG_addMembers {g : gG} {ad so sw : Nat → Nat} {I : Nat → Nat → Int32} {n v : Nat} {us : Nat → Nat} {ct : Nat → Nat → Int64} {h uh : Nat} {Fh : Nat → Int64} {t : Nat} {l : Launch} (hn : n ≤ 13) (hun : us n = mt_wd n) (hlt : ∀ x, mt_el (us n) (ct n) x → x < 2 ^ n) (ht : t < 13) (hhn : h ≠ n) (hh : h < 25) (hh16 : h < 14 ∨ 18 ≤ h) (huh : us h = uh) (hfh : ct h = Fh) (hcph : uh ≤ mt_cp h) (h2n : 2 ^ n ≤ 64 * uh) :
    gc_RV (S := Nat → Int64) l y_MG_addMembers (gx_ws y_MG_addMembers b_MG_addMembers 5 none) 2 46 g [.ref (ad 0), .int (nI t), .ref (so h)] (cW g ad so sw I n v us ct) (fun u1 => cW g ad so sw I n v us (va_up ct h u1)) (fun u1 => ∀ z, mt_el uh u1 z ↔ (mt_el uh Fh z ∨ (mt_el (us n) (ct n) z ∧ z.testBit t = true))) := by
  refine gx_body (by decide) (Nat.le_of_ble_eq_true rfl) ?_
  intro p e s m below meth c ls hAt hB hl
  obtain ⟨hx, hb, hml, hown, hts, hr, hlk, hnm⟩ := hAt
  have hown : s.vm.findClass R_MG = some m.cls := hown
  obtain ⟨⟨hP, hG⟩, hD0⟩ := hB
  have hD := gx_D.self hD0
  have hS : va_S (gx_in (cW g ad so sw I n v us ct)) s.heap s.heap [] := va_S.rf
  have hl : lv_has ls 5 [(0, .ref (ad 0)), (1, .int (nI t)), (2, .ref (so h))] := hl
  have hwd := mt_wd_le hn
  have hcp128 := mt_cp_le h
  refine lv_aload_n hx hb d_MG_addMembers_0 rfl (lv_at hl 0 rfl) ?_
  refine va_get (D := g.1) (own := R_MG) (ref := R_MG) (ci := 2) (v := .ref (ad 7)) (C := R_MG) (T := F_MG) (N := 6) hx hb hts in_MG hown hG.1 hP 0 rfl rfl 1 (by decide) (hts _ wd_94) (fun _ h9 => h9) rfl d_MG_addMembers_1 ?_
  refine lv_aload_n hx hb d_MG_addMembers_4 rfl (lv_at hl 0 rfl) ?_
  refine va_get (D := g.1) (own := R_MG) (ref := R_MG) (ci := 2) (v := .ref (ad 1)) (C := R_MG) (T := F_MG) (N := 6) hx hb hts in_MG hown hG.1 hP 0 rfl rfl 0 (by decide) (hts _ wd_91) (fun _ h9 => h9) rfl d_MG_addMembers_5 ?_
  refine va_getN (D := g.1) (own := R_MG) (ref := R_TT) (ci := 1) (v := .int (nI n)) (C := R_TT) (T := F_TT) (N := 6) hx hb hts in_TT hown hG.1 hP 1 rfl rfl 5 (by decide) (va_Nw.use rfl (hG.2.1 _ nw_4)) (fun _ h9 => h9) rfl d_MG_addMembers_8 ?_
  refine va_aldq hx hb hG.1 hP 7 3 rfl rfl (vp_in_nI (by omega) (by decide)) d_MG_addMembers_11 ?_
  refine mt_rv (w := .ref (so n)) (by rw [nI_clamp (by omega)]; rfl) ?_
  refine lv_astore_n (lv' := [(3, .ref (so n)), (0, .ref (ad 0)), (1, .int (nI t)), (2, .ref (so h))]) hx hb d_MG_addMembers_12 rfl hl (by decide) rfl (fun ls hl => ?_)
  refine lv_aload_n hx hb d_MG_addMembers_13 rfl (lv_at hl 0 rfl) ?_
  refine lv_iconst (v := nI 0) hx hb d_MG_addMembers_14 (by decide) ?_
  refine vp_callSi (va_runV (own := R_MG) (As := [.int (nI 0)]) (rest := []) ⟨hx, hb, hml, hown, hts⟩ (c_PS_nextFrom (l := l) (g := g) (o := so n) (w := sw n) (cp := mt_cp n) (u := us n) (f := ct n) (i := 0) (by omega) (by rw [hun, mt_cpr (by omega)]; exact Nat.le_refl _) (mt_cp_le _)) (cwV 1 hts (gx_goodV wd_200 wd_201 wd_202 wd_4 wd_203) rfl rfl rfl (by decide +kernel) ⟨Nat.le_of_ble_eq_true rfl, Nat.le_of_ble_eq_true rfl⟩) (gc_preV (gc_recv hP hG (ci := 0) rfl (cw_oE (k := n) (u := us n) (by omega) rfl)) (cw_pickE hP (by omega) rfl rfl) hG) rfl rfl hl.1 rfl (lv_room (Nat.le_of_ble_eq_true rfl)) d_MG_addMembers_15 ⟨Nat.le_refl _, Nat.le_refl _⟩).run (fun r hr15 => ?_)
  obtain ⟨q15, hq15, hn15⟩ := hr15
  subst hq15
  have hcu15 := mt_nx_cu hn15
  refine lv_istore (lv' := [(4, .int (nI q15)), (3, .ref (so n)), (0, .ref (ad 0)), (1, .int (nI t)), (2, .ref (so h))]) hx hb d_MG_addMembers_18 hl (by decide) rfl (fun ls hl => ?_)
  have lp20 : ∀ (d : Nat) (q : Nat) (f : Nat → Int64) (ls : Array Slot) (H : Heap) (locs : List Loc), d = 64 * us n - q → (q ≤ 64 * us n) → (q < 64 * us n → mt_el (us n) (ct n) q) → (mt_mp (mt_el (us n) (ct n)) (fun x z => x.testBit t = true ∧ z = x) (mt_el uh Fh) q (mt_el uh f)) → lv_has ls 5 [(4, .int (nI q)), (3, .ref (so n)), (0, .ref (ad 0)), (1, .int (nI t)), (2, .ref (so h))] → va_P g.1 gx_cl (cW g ad so sw I n v us (va_up ct h f)) H → va_D (gx_in (cW g ad so sw I n v us ct)) (cW g ad so sw I n v us (va_up ct h f)) → va_S (gx_in (cW g ad so sw I n v us ct)) s.heap H locs → W p l e (gx_rm 2 46) s m ([.ref (ad 0), .int (nI t), .ref (so h)] : List Value).toArray below meth c H locs 0 0 (MQ below (va_Qv (fun u1 => ∀ z, mt_el uh u1 z ↔ (mt_el uh Fh z ∨ (mt_el (us n) (ct n) z ∧ z.testBit t = true))) (fun u9 t9 => va_P g.1 gx_cl ((fun u1 => cW g ad so sw I n v us (va_up ct h u1)) u9) t9.heap ∧ va_D (gx_in (cW g ad so sw I n v us ct)) ((fun u1 => cW g ad so sw I n v us (va_up ct h u1)) u9)) (gx_in (cW g ad so sw I n v us ct))) ([.ref (ad 0), .int (nI t), .ref (so h)] : List Value).toArray s 0 0 (gx_in (cW g ad so sw I n v us ct))) (F0 m 20 ls []) := by
    intro d
    induction d using Nat.strongRecOn with
    | ind d ih20 =>
    intro q f ls H locs hd hq hqS hm hl hP hD hS
    refine lv_iload hx hb d_MG_addMembers_20 (lv_at hl 0 rfl) ?_
    refine lv_aload_n hx hb d_MG_addMembers_22 rfl (lv_at hl 1 rfl) ?_
    refine va_getN (D := g.1) (own := R_MG) (ref := R_PS) (ci := 0) (v := .int (nI (64 * (us n)))) (C := R_PS) (T := F_PS) (N := 3) hx hb hts in_PS hown hG.1 hP _ (cw_oE (k := n) (u := us n) (by omega) rfl) rfl 2 (by decide) (va_Nw.use rfl (hG.2.1 _ nw_7)) (fun _ h9 => h9) rfl d_MG_addMembers_23 ?_
    refine lv_icmp_ge (tgt := 57) hx hb d_MG_addMembers_26 (by decide) (mt_le (by omega) (by omega) fun hc26 => ?_) (mt_nle (by omega) (by omega) fun hc26 => ?_)
    · ---- 26T
      exact gc_retv (u := (f)) (Wf := fun u1 => cW g ad so sw I n v us (va_up ct h u1)) (post := fun u1 => ∀ z, mt_el uh u1 z ↔ (mt_el uh Fh z ∨ (mt_el (us n) (ct n) z ∧ z.testBit t = true))) hx hb hr hlk (mt_memb (mt_mp_e hm (by omega))) hP hD hS d_MG_addMembers_57
    · ---- 26F
      refine lv_iload hx hb d_MG_addMembers_29 (lv_at hl 0 rfl) ?_
      refine lv_iload_n hx hb d_MG_addMembers_31 rfl (lv_at hl 3 rfl) ?_
      refine vp_callSi (va_runSN (own := R_MG) (As := [.int (nI q), .int (nI t)]) (rest := []) ⟨hx, hb, hml, hown, hts⟩ (c_MT_holds (l := l) (g := g) (pp := q) (t := t) (by omega) (by omega)) ⟨va_cnB 2 hts (gx_good wd_187) rfl rfl rfl (hG.2.1 _ nw_14) (hts _ wd_1) (by decide +kernel) ⟨Nat.le_of_ble_eq_true rfl, Nat.le_of_ble_eq_true rfl⟩, hts _ wd_186, trivial⟩ (gc_preS (ws := []) (fun _ _ h => by cases h) hG) rfl rfl hl.1 rfl (lv_room (Nat.le_of_ble_eq_true rfl)) d_MG_addMembers_32 ⟨Nat.le_refl _, Nat.le_refl _⟩).run (fun r hr32 => ?_)
      subst hr32
      refine lv_if_eq (tgt := 44) hx hb d_MG_addMembers_35 (by decide) (mt_z fun hc35 => ?_) (mt_nz fun hc35 => ?_)
      · ---- 26F 35T
        refine lv_aload_n hx hb d_MG_addMembers_44 rfl (lv_at hl 1 rfl) ?_
        refine lv_iload hx hb d_MG_addMembers_45 (lv_at hl 0 rfl) ?_
        refine lv_iconst (v := nI 1) hx hb d_MG_addMembers_47 (by decide) ?_
        refine lv_iadd hx hb d_MG_addMembers_48 ?_
        refine mt_ri (y := nI (q + 1)) (nI_add _ _) ?_
        refine vp_callSi (va_runV (own := R_MG) (As := [.int (nI (q + 1))]) (rest := []) ⟨hx, hb, hml, hown, hts⟩ (c_PS_nextFrom (l := l) (g := g) (o := so n) (w := sw n) (cp := mt_cp n) (u := us n) (f := ct n) (i := q + 1) (by omega) (by rw [hun, mt_cpr (by omega)]; exact Nat.le_refl _) (mt_cp_le _)) (cwV 1 hts (gx_goodV wd_200 wd_201 wd_202 wd_4 wd_203) rfl rfl rfl (by decide +kernel) ⟨Nat.le_of_ble_eq_true rfl, Nat.le_of_ble_eq_true rfl⟩) (gc_preV (gc_recv hP hG (ci := 0) rfl (cw_oE (k := n) (u := us n) (by omega) rfl)) (cw_pickE hP (by omega) rfl (va_up_ne _ _ (by omega))) hG) rfl rfl hl.1 rfl (lv_room (Nat.le_of_ble_eq_true rfl)) d_MG_addMembers_49 ⟨Nat.le_refl _, Nat.le_refl _⟩).run (fun r hr49 => ?_)
        obtain ⟨q49, hq49, hn49⟩ := hr49
        subst hq49
        have hcu49 := mt_nx_cu hn49
        refine lv_istore (lv' := [(4, .int (nI q49)), (3, .ref (so n)), (0, .ref (ad 0)), (1, .int (nI t)), (2, .ref (so h))]) hx hb d_MG_addMembers_52 hl (by decide) rfl (fun ls hl => ?_)
        refine lv_goto (tgt := 20) hx hb d_MG_addMembers_54 (by decide) ?_
        exact ih20 _ (by have := hn49.1; omega) q49 f ls _ _ rfl (hcu49.1) (hcu49.2) (mt_mp_s hm (hqS (by omega)) hn49 (fun z => mt_no _ (by rw [hc35]; exact fun h9 => by cases h9.1) z)) (lv_sub hl [0, 1, 2, 3, 4] rfl) hP hD hS
      · ---- 26F 35F
        refine lv_aload_n hx hb d_MG_addMembers_38 rfl (lv_at hl 4 rfl) ?_
        refine lv_iload hx hb d_MG_addMembers_39 (lv_at hl 0 rfl) ?_
        refine gc_caddE (u := uh) (f := f) (by omega) huh (va_up_self _ _ _) (va_runV (own := R_MG) (As := [.int (nI q)]) (rest := []) ⟨hx, hb, hml, hown, hts⟩ (c_PS_add (l := l) (g := g) (o := so h) (w := sw h) (cp := mt_cp h) (u := uh) (f := f) (x := q) (by have := hlt q (hqS (by omega)); omega) (by omega) (mt_cp_le _)) (cwV 1 hts (gx_goodV wd_87 wd_88 wd_89 wd_4 wd_90) rfl rfl rfl (by decide +kernel) ⟨Nat.le_of_ble_eq_true rfl, Nat.le_of_ble_eq_true rfl⟩) (gc_preVW (gc_recv hP hG (ci := 0) rfl (cw_oE (k := h) (u := uh) (by omega) huh)) (cw_pickE hP (by omega) huh (va_up_self _ _ _)) hG (cw_pickDE hD (by omega) huh (va_up_self _ _ _))) rfl rfl hl.1 rfl (lv_room (Nat.le_of_ble_eq_true rfl)) d_MG_addMembers_41 ⟨Nat.le_refl _, Nat.le_refl _⟩) hP hD hS (fun f41 H locs hf41 hP hD hS => ?_)
        rw [bx_uu] at hP hD
        have hP : va_P g.1 gx_cl (cW g ad so sw I n v us (va_up ct h f41)) H := hP
        have hD : va_D (gx_in (cW g ad so sw I n v us ct)) (cW g ad so sw I n v us (va_up ct h f41)) := hD
        refine lv_aload_n hx hb d_MG_addMembers_44 rfl (lv_at hl 1 rfl) ?_
        refine lv_iload hx hb d_MG_addMembers_45 (lv_at hl 0 rfl) ?_
        refine lv_iconst (v := nI 1) hx hb d_MG_addMembers_47 (by decide) ?_
        refine lv_iadd hx hb d_MG_addMembers_48 ?_
        refine mt_ri (y := nI (q + 1)) (nI_add _ _) ?_
        refine vp_callSi (va_runV (own := R_MG) (As := [.int (nI (q + 1))]) (rest := []) ⟨hx, hb, hml, hown, hts⟩ (c_PS_nextFrom (l := l) (g := g) (o := so n) (w := sw n) (cp := mt_cp n) (u := us n) (f := ct n) (i := q + 1) (by omega) (by rw [hun, mt_cpr (by omega)]; exact Nat.le_refl _) (mt_cp_le _)) (cwV 1 hts (gx_goodV wd_200 wd_201 wd_202 wd_4 wd_203) rfl rfl rfl (by decide +kernel) ⟨Nat.le_of_ble_eq_true rfl, Nat.le_of_ble_eq_true rfl⟩) (gc_preV (gc_recv hP hG (ci := 0) rfl (cw_oE (k := n) (u := us n) (by omega) rfl)) (cw_pickE hP (by omega) rfl (va_up_ne _ _ (by omega))) hG) rfl rfl hl.1 rfl (lv_room (Nat.le_of_ble_eq_true rfl)) d_MG_addMembers_49 ⟨Nat.le_refl _, Nat.le_refl _⟩).run (fun r hr49 => ?_)
        obtain ⟨q49, hq49, hn49⟩ := hr49
        subst hq49
        have hcu49 := mt_nx_cu hn49
        refine lv_istore (lv' := [(4, .int (nI q49)), (3, .ref (so n)), (0, .ref (ad 0)), (1, .int (nI t)), (2, .ref (so h))]) hx hb d_MG_addMembers_52 hl (by decide) rfl (fun ls hl => ?_)
        refine lv_goto (tgt := 20) hx hb d_MG_addMembers_54 (by decide) ?_
        exact ih20 _ (by have := hn49.1; omega) q49 f41 ls _ _ rfl (hcu49.1) (hcu49.2) (mt_mp_s hm (hqS (by omega)) hn49 (fun z => (hf41 z).trans (or_congr_right ⟨fun h9 => ⟨hc35, h9⟩, fun h9 => h9.2⟩))) (lv_sub hl [0, 1, 2, 3, 4] rfl) hP hD hS
  have hP := (show va_P g.1 gx_cl (cW g ad so sw I n v us (va_up ct h Fh)) _ by rw [va_up_idE hfh]; exact hP)
  have hD := (show va_D (gx_in (cW g ad so sw I n v us ct)) (cW g ad so sw I n v us (va_up ct h Fh)) by rw [va_up_idE hfh]; exact hD)
  exact lp20 _ q15 Fh ls _ _ rfl (hcu15.1) (hcu15.2) (mt_mp_0 hn15 (fun _ => Iff.rfl)) (lv_sub hl [0, 1, 2, 3, 4] rfl) hP hD hS

set_option maxHeartbeats 4000000 in
set_option maxRecDepth 100000 in
theorem c_MG_addPairs {g : gG} {ad so sw : Nat → Nat} {I : Nat → Nat → Int32} {n v : Nat} {us : Nat → Nat} {ct : Nat → Nat → Int64}{k a b : Nat → Nat} {i ui j uj : Nat} {Fi Fj : Nat → Int64} {h uh : Nat} {Fh : Nat → Int64} {l : Launch} (hT : mt_TR I n k a b) (hn : n ≤ 13) (hw : mt_wf k a b n) (hi : i < 25) (hj : j < 25) (hi16 : i < 14 ∨ 17 ≤ i) (hj16 : j < 14 ∨ 17 ≤ j) (hih : i ≠ h) (hjh : j ≠ h) (hui : us i = ui) (hfi : ct i = Fi) (hucp : ui ≤ mt_cp i) (huj : us j = uj) (hfj : ct j = Fj) (hujcp : uj ≤ mt_cp j) (hh : h < 25) (hh16 : h < 14 ∨ 18 ≤ h) (huh : us h = uh) (hfh : ct h = Fh) (hcph : uh ≤ mt_cp h) (h2n : 2 ^ n ≤ 64 * uh) :
    gc_RV (S := gF4) l y_MG_addPairs (gx_ws y_MG_addPairs b_MG_addPairs 5 none) 3 68 g [.ref (ad 0), .ref (so i), .ref (so j), .ref (so h)] (cW g ad so sw I n v us ct) (fun (u : gF4) => cW g ad so sw I n v (va_up (va_up (va_up us 14 (mt_wd n)) 15 (mt_wd n)) 16 (mt_wd n)) (va_up (va_up (va_up (va_up ct 14 u.1) 15 u.2.1) 16 u.2.2.1) h u.2.2.2)) (fun (u : gF4) => ∀ z, mt_el uh u.2.2.2 z ↔ (mt_el uh Fh z ∨ ∃ x y, mt_el ui Fi x ∧ mt_el uj Fj y ∧ z = mt_pf k a b (mt_rp k a b x y) n)) := by
  refine gx_body (by decide) (Nat.le_of_ble_eq_true rfl) ?_
  intro p e s m below meth c ls hAt hB hl
  obtain ⟨hx, hb, hml, hown, hts, hr, hlk, hnm⟩ := hAt
  have hown : s.vm.findClass R_MG = some m.cls := hown
  obtain ⟨⟨hP, hG⟩, hD0⟩ := hB
  have hD := gx_D.self hD0
  have hS : va_S (gx_in (cW g ad so sw I n v us ct)) s.heap s.heap [] := va_S.rf
  have hl : lv_has ls 5 [(0, .ref (ad 0)), (1, .ref (so i)), (2, .ref (so j)), (3, .ref (so h))] := hl
  have hwd := mt_wd_le hn
  have hcpi := mt_cp_le i
  have hcpj := mt_cp_le j
  have hcph8 := mt_cp_le h
  refine lv_aload_n hx hb d_MG_addPairs_0 rfl (lv_at hl 0 rfl) ?_
  refine va_get (D := g.1) (own := R_MG) (ref := R_MG) (ci := 2) (v := .ref (so 14)) (C := R_MG) (T := F_MG) (N := 6) hx hb hts in_MG hown hG.1 hP 0 rfl rfl 2 (by decide) (hts _ wd_95) (fun _ h9 => h9) rfl d_MG_addPairs_1 ?_
  refine lv_aload_n hx hb d_MG_addPairs_4 rfl (lv_at hl 0 rfl) ?_
  refine va_get (D := g.1) (own := R_MG) (ref := R_MG) (ci := 2) (v := .ref (ad 1)) (C := R_MG) (T := F_MG) (N := 6) hx hb hts in_MG hown hG.1 hP 0 rfl rfl 0 (by decide) (hts _ wd_91) (fun _ h9 => h9) rfl d_MG_addPairs_5 ?_
  refine va_getN (D := g.1) (own := R_MG) (ref := R_TT) (ci := 1) (v := .int (nI n)) (C := R_TT) (T := F_TT) (N := 6) hx hb hts in_TT hown hG.1 hP 1 rfl rfl 5 (by decide) (va_Nw.use rfl (hG.2.1 _ nw_4)) (fun _ h9 => h9) rfl d_MG_addPairs_8 ?_
  refine gc_cresE (u := us 14) (f := ct 14) (w1 := mt_wd n) (by decide) rfl rfl (va_runV (own := R_MG) (As := [.int (nI n)]) (rest := []) ⟨hx, hb, hml, hown, hts⟩ (c_PS_restart (l := l) (g := g) (o := so 14) (w := sw 14) (cp := mt_cp 14) (u := us 14) (f := ct 14) (b := n) (by omega) (by exact mt_cp13 (by decide) (by decide) hn) (mt_cp_le _)) (cwV 1 hts (gx_goodV wd_80 wd_81 wd_82 wd_4 wd_83) rfl rfl rfl (by decide +kernel) ⟨Nat.le_of_ble_eq_true rfl, Nat.le_of_ble_eq_true rfl⟩) (gc_preVW (gc_recv hP hG (ci := 0) rfl (cw_oE (k := 14) (u := us 14) (by decide) rfl)) (cw_pickE hP (by decide) rfl rfl) hG (cw_pickDE hD (by decide) rfl rfl)) rfl rfl hl.1 rfl (lv_room (Nat.le_of_ble_eq_true rfl)) d_MG_addPairs_11 ⟨Nat.le_refl _, Nat.le_refl _⟩) hP hD hS (fun f11 H locs hf11 hP hD hS => ?_)
  have hP : va_P g.1 gx_cl (cW g ad so sw I n v (va_up us 14 (mt_wd n)) (va_up ct 14 f11)) H := hP
  have hD : va_D (gx_in (cW g ad so sw I n v us ct)) (cW g ad so sw I n v (va_up us 14 (mt_wd n)) (va_up ct 14 f11)) := hD
  refine lv_aload_n hx hb d_MG_addPairs_14 rfl (lv_at hl 1 rfl) ?_
  refine lv_iconst (v := nI 0) hx hb d_MG_addPairs_15 (by decide) ?_
  refine vp_callSi (va_runV (own := R_MG) (As := [.int (nI 0)]) (rest := []) ⟨hx, hb, hml, hown, hts⟩ (c_PS_nextFrom (l := l) (g := g) (o := so i) (w := sw i) (cp := mt_cp i) (u := ui) (f := Fi) (i := 0) (by omega) (by omega) (mt_cp_le _)) (cwV 1 hts (gx_goodV wd_200 wd_201 wd_202 wd_4 wd_203) rfl rfl rfl (by decide +kernel) ⟨Nat.le_of_ble_eq_true rfl, Nat.le_of_ble_eq_true rfl⟩) (gc_preV (gc_recv hP hG (ci := 0) rfl (cw_oE (k := i) (u := ui) (by omega) ((va_up_ne _ _ (by omega)).trans (hui)))) (cw_pickE hP (by omega) ((va_up_ne _ _ (by omega)).trans (hui)) ((va_up_ne _ _ (by omega)).trans (hfi))) hG) rfl rfl hl.1 rfl (lv_room (Nat.le_of_ble_eq_true rfl)) d_MG_addPairs_16 ⟨Nat.le_refl _, Nat.le_refl _⟩).run (fun r hr16 => ?_)
  obtain ⟨q16, hq16, hn16⟩ := hr16
  subst hq16
  have hcu16 := mt_nx_cu hn16
  refine lv_istore (lv' := [(4, .int (nI q16)), (0, .ref (ad 0)), (1, .ref (so i)), (2, .ref (so j)), (3, .ref (so h))]) hx hb d_MG_addPairs_19 hl (by decide) rfl (fun ls hl => ?_)
  have lp21 : ∀ (d : Nat) (q : Nat) (f : Nat → Int64) (ls : Array Slot) (H : Heap) (locs : List Loc), d = 64 * ui - q → (q ≤ 64 * ui) → (q < 64 * ui → mt_el ui Fi q) → (mt_mp (mt_el ui Fi) (fun x z => z = mt_ps k a n x) (fun _ => False) q (mt_el (mt_wd n) f)) → lv_has ls 5 [(4, .int (nI q)), (0, .ref (ad 0)), (1, .ref (so i)), (2, .ref (so j)), (3, .ref (so h))] → va_P g.1 gx_cl (cW g ad so sw I n v (va_up us 14 (mt_wd n)) (va_up ct 14 f)) H → va_D (gx_in (cW g ad so sw I n v us ct)) (cW g ad so sw I n v (va_up us 14 (mt_wd n)) (va_up ct 14 f)) → va_S (gx_in (cW g ad so sw I n v us ct)) s.heap H locs → W p l e (gx_rm 3 68) s m ([.ref (ad 0), .ref (so i), .ref (so j), .ref (so h)] : List Value).toArray below meth c H locs 0 0 (MQ below (va_Qv (fun (u : gF4) => ∀ z, mt_el uh u.2.2.2 z ↔ (mt_el uh Fh z ∨ ∃ x y, mt_el ui Fi x ∧ mt_el uj Fj y ∧ z = mt_pf k a b (mt_rp k a b x y) n)) (fun u9 t9 => va_P g.1 gx_cl ((fun (u : gF4) => cW g ad so sw I n v (va_up (va_up (va_up us 14 (mt_wd n)) 15 (mt_wd n)) 16 (mt_wd n)) (va_up (va_up (va_up (va_up ct 14 u.1) 15 u.2.1) 16 u.2.2.1) h u.2.2.2)) u9) t9.heap ∧ va_D (gx_in (cW g ad so sw I n v us ct)) ((fun (u : gF4) => cW g ad so sw I n v (va_up (va_up (va_up us 14 (mt_wd n)) 15 (mt_wd n)) 16 (mt_wd n)) (va_up (va_up (va_up (va_up ct 14 u.1) 15 u.2.1) 16 u.2.2.1) h u.2.2.2)) u9)) (gx_in (cW g ad so sw I n v us ct))) ([.ref (ad 0), .ref (so i), .ref (so j), .ref (so h)] : List Value).toArray s 0 0 (gx_in (cW g ad so sw I n v us ct))) (F0 m 21 ls []) := by
    intro d
    induction d using Nat.strongRecOn with
    | ind d ih21 =>
    intro q f ls H locs hd hq hqS hm hl hP hD hS
    refine lv_iload hx hb d_MG_addPairs_21 (lv_at hl 0 rfl) ?_
    refine lv_aload_n hx hb d_MG_addPairs_23 rfl (lv_at hl 2 rfl) ?_
    refine va_getN (D := g.1) (own := R_MG) (ref := R_PS) (ci := 0) (v := .int (nI (64 * ui))) (C := R_PS) (T := F_PS) (N := 3) hx hb hts in_PS hown hG.1 hP _ (cw_oE (k := i) (u := ui) (by omega) ((va_up_ne _ _ (by omega)).trans (hui))) rfl 2 (by decide) (va_Nw.use rfl (hG.2.1 _ nw_7)) (fun _ h9 => h9) rfl d_MG_addPairs_24 ?_
    refine lv_icmp_ge (tgt := 67) hx hb d_MG_addPairs_27 (by decide) (mt_le (by omega) (by omega) fun hc27 => ?_) (mt_nle (by omega) (by omega) fun hc27 => ?_)
    · ---- 27T
      refine lv_aload_n hx hb d_MG_addPairs_67 rfl (lv_at hl 1 rfl) ?_
      refine va_get (D := g.1) (own := R_MG) (ref := R_MG) (ci := 2) (v := .ref (so 15)) (C := R_MG) (T := F_MG) (N := 6) hx hb hts in_MG hown hG.1 hP 0 rfl rfl 3 (by decide) (hts _ wd_96) (fun _ h9 => h9) rfl d_MG_addPairs_68 ?_
      refine lv_aload_n hx hb d_MG_addPairs_71 rfl (lv_at hl 1 rfl) ?_
      refine va_get (D := g.1) (own := R_MG) (ref := R_MG) (ci := 2) (v := .ref (ad 1)) (C := R_MG) (T := F_MG) (N := 6) hx hb hts in_MG hown hG.1 hP 0 rfl rfl 0 (by decide) (hts _ wd_91) (fun _ h9 => h9) rfl d_MG_addPairs_72 ?_
      refine va_getN (D := g.1) (own := R_MG) (ref := R_TT) (ci := 1) (v := .int (nI n)) (C := R_TT) (T := F_TT) (N := 6) hx hb hts in_TT hown hG.1 hP 1 rfl rfl 5 (by decide) (va_Nw.use rfl (hG.2.1 _ nw_4)) (fun _ h9 => h9) rfl d_MG_addPairs_75 ?_
      refine gc_cresE (u := us 15) (f := ct 15) (w1 := mt_wd n) (by decide) (va_up_ne _ _ (by decide)) (va_up_ne _ _ (by decide)) (va_runV (own := R_MG) (As := [.int (nI n)]) (rest := []) ⟨hx, hb, hml, hown, hts⟩ (c_PS_restart (l := l) (g := g) (o := so 15) (w := sw 15) (cp := mt_cp 15) (u := us 15) (f := ct 15) (b := n) (by omega) (by exact mt_cp13 (by decide) (by decide) hn) (mt_cp_le _)) (cwV 1 hts (gx_goodV wd_80 wd_81 wd_82 wd_4 wd_83) rfl rfl rfl (by decide +kernel) ⟨Nat.le_of_ble_eq_true rfl, Nat.le_of_ble_eq_true rfl⟩) (gc_preVW (gc_recv hP hG (ci := 0) rfl (cw_oE (k := 15) (u := us 15) (by decide) (va_up_ne _ _ (by decide)))) (cw_pickE hP (by decide) (va_up_ne _ _ (by decide)) (va_up_ne _ _ (by decide))) hG (cw_pickDE hD (by decide) (va_up_ne _ _ (by decide)) (va_up_ne _ _ (by decide)))) rfl rfl hl.1 rfl (lv_room (Nat.le_of_ble_eq_true rfl)) d_MG_addPairs_78 ⟨Nat.le_refl _, Nat.le_refl _⟩) hP hD hS (fun f78 H locs hf78 hP hD hS => ?_)
      have hP : va_P g.1 gx_cl (cW g ad so sw I n v (va_up (va_up us 14 (mt_wd n)) 15 (mt_wd n)) (va_up (va_up ct 14 f) 15 f78)) H := hP
      have hD : va_D (gx_in (cW g ad so sw I n v us ct)) (cW g ad so sw I n v (va_up (va_up us 14 (mt_wd n)) 15 (mt_wd n)) (va_up (va_up ct 14 f) 15 f78)) := hD
      refine lv_aload_n hx hb d_MG_addPairs_81 rfl (lv_at hl 3 rfl) ?_
      refine lv_iconst (v := nI 0) hx hb d_MG_addPairs_82 (by decide) ?_
      refine vp_callSi (va_runV (own := R_MG) (As := [.int (nI 0)]) (rest := []) ⟨hx, hb, hml, hown, hts⟩ (c_PS_nextFrom (l := l) (g := g) (o := so j) (w := sw j) (cp := mt_cp j) (u := uj) (f := Fj) (i := 0) (by omega) (by omega) (mt_cp_le _)) (cwV 1 hts (gx_goodV wd_200 wd_201 wd_202 wd_4 wd_203) rfl rfl rfl (by decide +kernel) ⟨Nat.le_of_ble_eq_true rfl, Nat.le_of_ble_eq_true rfl⟩) (gc_preV (gc_recv hP hG (ci := 0) rfl (cw_oE (k := j) (u := uj) (by omega) ((va_up_ne _ _ (by omega)).trans ((va_up_ne _ _ (by omega)).trans (huj))))) (cw_pickE hP (by omega) ((va_up_ne _ _ (by omega)).trans ((va_up_ne _ _ (by omega)).trans (huj))) ((va_up_ne _ _ (by omega)).trans ((va_up_ne _ _ (by omega)).trans (hfj)))) hG) rfl rfl hl.1 rfl (lv_room (Nat.le_of_ble_eq_true rfl)) d_MG_addPairs_83 ⟨Nat.le_refl _, Nat.le_refl _⟩).run (fun r hr83 => ?_)
      obtain ⟨q83, hq83, hn83⟩ := hr83
      subst hq83
      have hcu83 := mt_nx_cu hn83
      refine lv_istore (lv' := [(4, .int (nI q83)), (0, .ref (ad 0)), (1, .ref (so i)), (2, .ref (so j)), (3, .ref (so h))]) hx hb d_MG_addPairs_86 hl (by decide) rfl (fun ls hl => ?_)
      have lp88 : ∀ (d : Nat) (q2 : Nat) (f2 : Nat → Int64) (ls : Array Slot) (H : Heap) (locs : List Loc), d = 64 * uj - q2 → (q2 ≤ 64 * uj) → (q2 < 64 * uj → mt_el uj Fj q2) → (mt_mp (mt_el uj Fj) (fun x z => z = mt_ps k b n x) (fun _ => False) q2 (mt_el (mt_wd n) f2)) → lv_has ls 5 [(4, .int (nI q2)), (0, .ref (ad 0)), (1, .ref (so i)), (2, .ref (so j)), (3, .ref (so h))] → va_P g.1 gx_cl (cW g ad so sw I n v (va_up (va_up us 14 (mt_wd n)) 15 (mt_wd n)) (va_up (va_up ct 14 f) 15 f2)) H → va_D (gx_in (cW g ad so sw I n v us ct)) (cW g ad so sw I n v (va_up (va_up us 14 (mt_wd n)) 15 (mt_wd n)) (va_up (va_up ct 14 f) 15 f2)) → va_S (gx_in (cW g ad so sw I n v us ct)) s.heap H locs → W p l e (gx_rm 3 68) s m ([.ref (ad 0), .ref (so i), .ref (so j), .ref (so h)] : List Value).toArray below meth c H locs 0 0 (MQ below (va_Qv (fun (u : gF4) => ∀ z, mt_el uh u.2.2.2 z ↔ (mt_el uh Fh z ∨ ∃ x y, mt_el ui Fi x ∧ mt_el uj Fj y ∧ z = mt_pf k a b (mt_rp k a b x y) n)) (fun u9 t9 => va_P g.1 gx_cl ((fun (u : gF4) => cW g ad so sw I n v (va_up (va_up (va_up us 14 (mt_wd n)) 15 (mt_wd n)) 16 (mt_wd n)) (va_up (va_up (va_up (va_up ct 14 u.1) 15 u.2.1) 16 u.2.2.1) h u.2.2.2)) u9) t9.heap ∧ va_D (gx_in (cW g ad so sw I n v us ct)) ((fun (u : gF4) => cW g ad so sw I n v (va_up (va_up (va_up us 14 (mt_wd n)) 15 (mt_wd n)) 16 (mt_wd n)) (va_up (va_up (va_up (va_up ct 14 u.1) 15 u.2.1) 16 u.2.2.1) h u.2.2.2)) u9)) (gx_in (cW g ad so sw I n v us ct))) ([.ref (ad 0), .ref (so i), .ref (so j), .ref (so h)] : List Value).toArray s 0 0 (gx_in (cW g ad so sw I n v us ct))) (F0 m 88 ls []) := by
        intro d
        induction d using Nat.strongRecOn with
        | ind d ih88 =>
        intro q2 f2 ls H locs hd hq2 hqS2 hm2 hl hP hD hS
        refine lv_iload hx hb d_MG_addPairs_88 (lv_at hl 0 rfl) ?_
        refine lv_aload_n hx hb d_MG_addPairs_90 rfl (lv_at hl 3 rfl) ?_
        refine va_getN (D := g.1) (own := R_MG) (ref := R_PS) (ci := 0) (v := .int (nI (64 * uj))) (C := R_PS) (T := F_PS) (N := 3) hx hb hts in_PS hown hG.1 hP _ (cw_oE (k := j) (u := uj) (by omega) ((va_up_ne _ _ (by omega)).trans ((va_up_ne _ _ (by omega)).trans (huj)))) rfl 2 (by decide) (va_Nw.use rfl (hG.2.1 _ nw_7)) (fun _ h9 => h9) rfl d_MG_addPairs_91 ?_
        refine lv_icmp_ge (tgt := 134) hx hb d_MG_addPairs_94 (by decide) (mt_le (by omega) (by omega) fun hc94 => ?_) (mt_nle (by omega) (by omega) fun hc94 => ?_)
        · ---- 94T
          refine lv_aload_n hx hb d_MG_addPairs_134 rfl (lv_at hl 1 rfl) ?_
          refine gc_cwv (va_runV (own := R_MG) (As := []) (rest := []) ⟨hx, hb, hml, hown, hts⟩ (c_MG_crossStartsWithEnds (l := l) (g := g) (ad := ad) (so := so) (sw := sw) (I := I) (n := n) (v := v) (us := (va_up (va_up us 14 (mt_wd n)) 15 (mt_wd n))) (ct := (va_up (va_up ct 14 f) 15 f2)) hn ((va_up_ne _ _ (by decide)).trans (va_up_self _ _ _)) (va_up_self _ _ _)) (cwV 0 hts (gx_goodV wd_215 wd_217 ws_3 wd_2 wd_218) rfl rfl rfl (by decide +kernel) ⟨Nat.le_of_ble_eq_true rfl, Nat.le_of_ble_eq_true rfl⟩) (gc_preVW (gc_recv hP hG (ci := 2) rfl (q0 := 0) rfl) hP hG hD) rfl rfl hl.1 rfl (lv_room (Nat.le_of_ble_eq_true rfl)) d_MG_addPairs_135 ⟨Nat.le_refl _, Nat.le_refl _⟩) hD hS (fun u135 H locs hu135 hP hD hS => ?_)
          have hP : va_P g.1 gx_cl (cW g ad so sw I n v (va_up (va_up (va_up us 14 (mt_wd n)) 15 (mt_wd n)) 16 (mt_wd n)) (va_up (va_up (va_up ct 14 f) 15 f2) 16 u135)) H := hP
          have hD : va_D (gx_in (cW g ad so sw I n v us ct)) (cW g ad so sw I n v (va_up (va_up (va_up us 14 (mt_wd n)) 15 (mt_wd n)) 16 (mt_wd n)) (va_up (va_up (va_up ct 14 f) 15 f2) 16 u135)) := hD
          refine lv_aload_n hx hb d_MG_addPairs_138 rfl (lv_at hl 1 rfl) ?_
          refine va_get (D := g.1) (own := R_MG) (ref := R_MG) (ci := 2) (v := .ref (so 16)) (C := R_MG) (T := F_MG) (N := 6) hx hb hts in_MG hown hG.1 hP 0 rfl rfl 4 (by decide) (hts _ wd_97) (fun _ h9 => h9) rfl d_MG_addPairs_139 ?_
          refine lv_iconst (v := nI 0) hx hb d_MG_addPairs_142 (by decide) ?_
          refine vp_callSi (va_runV (own := R_MG) (As := [.int (nI 0)]) (rest := []) ⟨hx, hb, hml, hown, hts⟩ (c_PS_nextFrom (l := l) (g := g) (o := so 16) (w := sw 16) (cp := mt_cp 16) (u := mt_wd n) (f := u135) (i := 0) (by omega) (by first | omega | (rw [hu16]; exact mt_cp13 (by decide) (by decide) hn) | exact mt_cp13 (by decide) (by decide) hn) (mt_cp_le _)) (cwV 1 hts (gx_goodV wd_200 wd_201 wd_202 wd_4 wd_203) rfl rfl rfl (by decide +kernel) ⟨Nat.le_of_ble_eq_true rfl, Nat.le_of_ble_eq_true rfl⟩) (gc_preV (gc_recv hP hG (ci := 0) rfl (cw_oE (k := 16) (u := mt_wd n) (by decide) (va_up_self _ _ _))) (cw_pickE hP (by decide) (va_up_self _ _ _) (va_up_self _ _ _)) hG) rfl rfl hl.1 rfl (lv_room (Nat.le_of_ble_eq_true rfl)) d_MG_addPairs_143 ⟨Nat.le_refl _, Nat.le_refl _⟩).run (fun r hr143 => ?_)
          obtain ⟨q143, hq143, hn143⟩ := hr143
          subst hq143
          have hcu143 := mt_nx_cu hn143
          refine lv_istore (lv' := [(4, .int (nI q143)), (0, .ref (ad 0)), (1, .ref (so i)), (2, .ref (so j)), (3, .ref (so h))]) hx hb d_MG_addPairs_146 hl (by decide) rfl (fun ls hl => ?_)
          have lp148 : ∀ (d : Nat) (q3 : Nat) (f3 : Nat → Int64) (ls : Array Slot) (H : Heap) (locs : List Loc), d = 64 * mt_wd n - q3 → (q3 ≤ 64 * mt_wd n) → (q3 < 64 * mt_wd n → mt_el (mt_wd n) u135 q3) → (mt_mp (mt_el (mt_wd n) u135) (fun x z => z = mt_pf k a b (fun t => Nat.testBit x t) n) (mt_el uh Fh) q3 (mt_el uh f3)) → lv_has ls 5 [(4, .int (nI q3)), (0, .ref (ad 0)), (3, .ref (so h))] → va_P g.1 gx_cl (cW g ad so sw I n v (va_up (va_up (va_up us 14 (mt_wd n)) 15 (mt_wd n)) 16 (mt_wd n)) (va_up (va_up (va_up (va_up ct 14 f) 15 f2) 16 u135) h f3)) H → va_D (gx_in (cW g ad so sw I n v us ct)) (cW g ad so sw I n v (va_up (va_up (va_up us 14 (mt_wd n)) 15 (mt_wd n)) 16 (mt_wd n)) (va_up (va_up (va_up (va_up ct 14 f) 15 f2) 16 u135) h f3)) → va_S (gx_in (cW g ad so sw I n v us ct)) s.heap H locs → W p l e (gx_rm 3 68) s m ([.ref (ad 0), .ref (so i), .ref (so j), .ref (so h)] : List Value).toArray below meth c H locs 0 0 (MQ below (va_Qv (fun (u : gF4) => ∀ z, mt_el uh u.2.2.2 z ↔ (mt_el uh Fh z ∨ ∃ x y, mt_el ui Fi x ∧ mt_el uj Fj y ∧ z = mt_pf k a b (mt_rp k a b x y) n)) (fun u9 t9 => va_P g.1 gx_cl ((fun (u : gF4) => cW g ad so sw I n v (va_up (va_up (va_up us 14 (mt_wd n)) 15 (mt_wd n)) 16 (mt_wd n)) (va_up (va_up (va_up (va_up ct 14 u.1) 15 u.2.1) 16 u.2.2.1) h u.2.2.2)) u9) t9.heap ∧ va_D (gx_in (cW g ad so sw I n v us ct)) ((fun (u : gF4) => cW g ad so sw I n v (va_up (va_up (va_up us 14 (mt_wd n)) 15 (mt_wd n)) 16 (mt_wd n)) (va_up (va_up (va_up (va_up ct 14 u.1) 15 u.2.1) 16 u.2.2.1) h u.2.2.2)) u9)) (gx_in (cW g ad so sw I n v us ct))) ([.ref (ad 0), .ref (so i), .ref (so j), .ref (so h)] : List Value).toArray s 0 0 (gx_in (cW g ad so sw I n v us ct))) (F0 m 148 ls []) := by
            intro d
            induction d using Nat.strongRecOn with
            | ind d ih148 =>
            intro q3 f3 ls H locs hd hq3 hqS3 hm3 hl hP hD hS
            refine lv_iload hx hb d_MG_addPairs_148 (lv_at hl 0 rfl) ?_
            refine lv_aload_n hx hb d_MG_addPairs_150 rfl (lv_at hl 1 rfl) ?_
            refine va_get (D := g.1) (own := R_MG) (ref := R_MG) (ci := 2) (v := .ref (so 16)) (C := R_MG) (T := F_MG) (N := 6) hx hb hts in_MG hown hG.1 hP 0 rfl rfl 4 (by decide) (hts _ wd_97) (fun _ h9 => h9) rfl d_MG_addPairs_151 ?_
            refine va_getN (D := g.1) (own := R_MG) (ref := R_PS) (ci := 0) (v := .int (nI (64 * (mt_wd n)))) (C := R_PS) (T := F_PS) (N := 3) hx hb hts in_PS hown hG.1 hP _ (cw_oE (k := 16) (u := mt_wd n) (by decide) (va_up_self _ _ _)) rfl 2 (by decide) (va_Nw.use rfl (hG.2.1 _ nw_7)) (fun _ h9 => h9) rfl d_MG_addPairs_154 ?_
            refine lv_icmp_ge (tgt := 189) hx hb d_MG_addPairs_157 (by decide) (mt_le (by omega) (by omega) fun hc157 => ?_) (mt_nle (by omega) (by omega) fun hc157 => ?_)
            · ---- 157T
              exact gc_retv (u := (f, f2, u135, f3)) (Wf := fun (u : gF4) => cW g ad so sw I n v (va_up (va_up (va_up us 14 (mt_wd n)) 15 (mt_wd n)) 16 (mt_wd n)) (va_up (va_up (va_up (va_up ct 14 u.1) 15 u.2.1) 16 u.2.2.1) h u.2.2.2)) (post := fun (u : gF4) => ∀ z, mt_el uh u.2.2.2 z ↔ (mt_el uh Fh z ∨ ∃ x y, mt_el ui Fi x ∧ mt_el uj Fj y ∧ z = mt_pf k a b (mt_rp k a b x y) n)) hx hb hr hlk (mt_pairs_of hu135 (mt_mp_e hm (by omega)) (mt_mp_e hm2 (by omega)) (mt_mp_e hm3 (by omega))) hP hD hS d_MG_addPairs_189
            · ---- 157F
              refine lv_aload_n hx hb d_MG_addPairs_160 rfl (lv_at hl 2 rfl) ?_
              refine lv_aload_n hx hb d_MG_addPairs_161 rfl (lv_at hl 1 rfl) ?_
              refine va_get (D := g.1) (own := R_MG) (ref := R_MG) (ci := 2) (v := .ref (ad 1)) (C := R_MG) (T := F_MG) (N := 6) hx hb hts in_MG hown hG.1 hP 0 rfl rfl 0 (by decide) (hts _ wd_91) (fun _ h9 => h9) rfl d_MG_addPairs_162 ?_
              refine lv_iload hx hb d_MG_addPairs_165 (lv_at hl 0 rfl) ?_
              refine vp_callSi (va_runV (own := R_MG) (As := [.int (nI q3)]) (rest := [.ref (so h)]) ⟨hx, hb, hml, hown, hts⟩ (c_TT_profileFrom (l := l) (g := g) (ad := ad) (so := so) (sw := sw) (I := I) (n := n) (v := v) (us := (va_up (va_up (va_up us 14 (mt_wd n)) 15 (mt_wd n)) 16 (mt_wd n))) (ct := (va_up (va_up (va_up (va_up ct 14 f) 15 f2) 16 u135) h f3)) (k := k) (a := a) (b := b) (ro := q3) (rr := fun t => Nat.testBit q3 t) hT hn hw (mt_pairs_lt hu135 (mt_mp_e hm (by omega)) (hqS3 (by omega))) (fun _ _ _ => rfl) (mt_pairs_hi hu135 (mt_mp_e hm (by omega)) (hqS3 (by omega)))) (cwV 1 hts (gx_goodV wd_219 wd_189 wd_190 wd_3 wd_191) rfl rfl rfl (by decide +kernel) ⟨Nat.le_of_ble_eq_true rfl, Nat.le_of_ble_eq_true rfl⟩) (gc_preV (gc_recv hP hG (ci := 1) rfl (q0 := 1) rfl) hP hG) rfl rfl hl.1 rfl (lv_room (Nat.le_of_ble_eq_true rfl)) d_MG_addPairs_167 ⟨Nat.le_refl _, Nat.le_refl _⟩).run (fun r hr167 => ?_)
              subst hr167
              refine gc_caddE (u := uh) (f := f3) (by omega) ((va_up_ne _ _ (by omega)).trans ((va_up_ne _ _ (by omega)).trans ((va_up_ne _ _ (by omega)).trans (huh)))) (va_up_self _ _ _) (va_runV (own := R_MG) (As := [.int (nI (mt_pf k a b (fun t => Nat.testBit q3 t) n))]) (rest := []) ⟨hx, hb, hml, hown, hts⟩ (c_PS_add (l := l) (g := g) (o := so h) (w := sw h) (cp := mt_cp h) (u := uh) (f := f3) (x := mt_pf k a b (fun t => Nat.testBit q3 t) n) (by have := mt_pf_lt k a b (fun t => Nat.testBit q3 t) n; omega) (by omega) (mt_cp_le _)) (cwV 1 hts (gx_goodV wd_87 wd_88 wd_89 wd_4 wd_90) rfl rfl rfl (by decide +kernel) ⟨Nat.le_of_ble_eq_true rfl, Nat.le_of_ble_eq_true rfl⟩) (gc_preVW (gc_recv hP hG (ci := 0) rfl (cw_oE (k := h) (u := uh) (by omega) ((va_up_ne _ _ (by omega)).trans ((va_up_ne _ _ (by omega)).trans ((va_up_ne _ _ (by omega)).trans (huh)))))) (cw_pickE hP (by omega) ((va_up_ne _ _ (by omega)).trans ((va_up_ne _ _ (by omega)).trans ((va_up_ne _ _ (by omega)).trans (huh)))) (va_up_self _ _ _)) hG (cw_pickDE hD (by omega) ((va_up_ne _ _ (by omega)).trans ((va_up_ne _ _ (by omega)).trans ((va_up_ne _ _ (by omega)).trans (huh)))) (va_up_self _ _ _))) rfl rfl hl.1 rfl (lv_room (Nat.le_of_ble_eq_true rfl)) d_MG_addPairs_170 ⟨Nat.le_refl _, Nat.le_refl _⟩) hP hD hS (fun f170 H locs hf170 hP hD hS => ?_)
              rw [bx_uu] at hP hD
              have hP : va_P g.1 gx_cl (cW g ad so sw I n v (va_up (va_up (va_up us 14 (mt_wd n)) 15 (mt_wd n)) 16 (mt_wd n)) (va_up (va_up (va_up (va_up ct 14 f) 15 f2) 16 u135) h f170)) H := hP
              have hD : va_D (gx_in (cW g ad so sw I n v us ct)) (cW g ad so sw I n v (va_up (va_up (va_up us 14 (mt_wd n)) 15 (mt_wd n)) 16 (mt_wd n)) (va_up (va_up (va_up (va_up ct 14 f) 15 f2) 16 u135) h f170)) := hD
              refine lv_aload_n hx hb d_MG_addPairs_173 rfl (lv_at hl 1 rfl) ?_
              refine va_get (D := g.1) (own := R_MG) (ref := R_MG) (ci := 2) (v := .ref (so 16)) (C := R_MG) (T := F_MG) (N := 6) hx hb hts in_MG hown hG.1 hP 0 rfl rfl 4 (by decide) (hts _ wd_97) (fun _ h9 => h9) rfl d_MG_addPairs_174 ?_
              refine lv_iload hx hb d_MG_addPairs_177 (lv_at hl 0 rfl) ?_
              refine lv_iconst (v := nI 1) hx hb d_MG_addPairs_179 (by decide) ?_
              refine lv_iadd hx hb d_MG_addPairs_180 ?_
              refine mt_ri (y := nI (q3 + 1)) (nI_add _ _) ?_
              refine vp_callSi (va_runV (own := R_MG) (As := [.int (nI (q3 + 1))]) (rest := []) ⟨hx, hb, hml, hown, hts⟩ (c_PS_nextFrom (l := l) (g := g) (o := so 16) (w := sw 16) (cp := mt_cp 16) (u := mt_wd n) (f := u135) (i := q3 + 1) (by omega) (by first | omega | (rw [hu16]; exact mt_cp13 (by decide) (by decide) hn) | exact mt_cp13 (by decide) (by decide) hn) (mt_cp_le _)) (cwV 1 hts (gx_goodV wd_200 wd_201 wd_202 wd_4 wd_203) rfl rfl rfl (by decide +kernel) ⟨Nat.le_of_ble_eq_true rfl, Nat.le_of_ble_eq_true rfl⟩) (gc_preV (gc_recv hP hG (ci := 0) rfl (cw_oE (k := 16) (u := mt_wd n) (by decide) (va_up_self _ _ _))) (cw_pickE hP (by decide) (va_up_self _ _ _) ((va_up_ne _ _ (by omega)).trans (va_up_self _ _ _))) hG) rfl rfl hl.1 rfl (lv_room (Nat.le_of_ble_eq_true rfl)) d_MG_addPairs_181 ⟨Nat.le_refl _, Nat.le_refl _⟩).run (fun r hr181 => ?_)
              obtain ⟨q181, hq181, hn181⟩ := hr181
              subst hq181
              have hcu181 := mt_nx_cu hn181
              refine lv_istore (lv' := [(4, .int (nI q181)), (0, .ref (ad 0)), (3, .ref (so h))]) hx hb d_MG_addPairs_184 hl (by decide) rfl (fun ls hl => ?_)
              refine lv_goto (tgt := 148) hx hb d_MG_addPairs_186 (by decide) ?_
              exact ih148 _ (by have := hn181.1; omega) q181 f170 ls _ _ rfl (hcu181.1) (hcu181.2) (mt_mp_s hm3 (hqS3 (by omega)) hn181 hf170) (lv_sub hl [0, 1, 2] rfl) hP hD hS
          have hhc : (va_up (va_up (va_up ct 14 f) 15 f2) 16 u135) h = Fh := (va_up_ne _ _ (by omega)).trans ((va_up_ne _ _ (by omega)).trans ((va_up_ne _ _ (by omega)).trans hfh))
          have hP := (show va_P g.1 gx_cl (cW g ad so sw I n v (va_up (va_up (va_up us 14 (mt_wd n)) 15 (mt_wd n)) 16 (mt_wd n)) (va_up (va_up (va_up (va_up ct 14 f) 15 f2) 16 u135) h Fh)) _ by rw [va_up_idE hhc]; exact hP)
          have hD := (show va_D (gx_in (cW g ad so sw I n v us ct)) (cW g ad so sw I n v (va_up (va_up (va_up us 14 (mt_wd n)) 15 (mt_wd n)) 16 (mt_wd n)) (va_up (va_up (va_up (va_up ct 14 f) 15 f2) 16 u135) h Fh)) by rw [va_up_idE hhc]; exact hD)
          exact lp148 _ q143 Fh ls _ _ rfl (hcu143.1) (hcu143.2) (mt_mp_0 hn143 (fun _ => Iff.rfl)) (lv_sub hl [0, 1, 4] rfl) hP hD hS
        · ---- 94F
          refine lv_aload_n hx hb d_MG_addPairs_97 rfl (lv_at hl 1 rfl) ?_
          refine va_get (D := g.1) (own := R_MG) (ref := R_MG) (ci := 2) (v := .ref (so 15)) (C := R_MG) (T := F_MG) (N := 6) hx hb hts in_MG hown hG.1 hP 0 rfl rfl 3 (by decide) (hts _ wd_96) (fun _ h9 => h9) rfl d_MG_addPairs_98 ?_
          refine lv_aload_n hx hb d_MG_addPairs_101 rfl (lv_at hl 1 rfl) ?_
          refine va_get (D := g.1) (own := R_MG) (ref := R_MG) (ci := 2) (v := .ref (ad 1)) (C := R_MG) (T := F_MG) (N := 6) hx hb hts in_MG hown hG.1 hP 0 rfl rfl 0 (by decide) (hts _ wd_91) (fun _ h9 => h9) rfl d_MG_addPairs_102 ?_
          refine lv_iconst (v := nI 1) hx hb d_MG_addPairs_105 (by decide) ?_
          refine lv_aload_n hx hb d_MG_addPairs_106 rfl (lv_at hl 1 rfl) ?_
          refine va_get (D := g.1) (own := R_MG) (ref := R_MG) (ci := 2) (v := .ref (ad 1)) (C := R_MG) (T := F_MG) (N := 6) hx hb hts in_MG hown hG.1 hP 0 rfl rfl 0 (by decide) (hts _ wd_91) (fun _ h9 => h9) rfl d_MG_addPairs_107 ?_
          refine va_getN (D := g.1) (own := R_MG) (ref := R_TT) (ci := 1) (v := .ref (ad 4)) (C := R_TT) (T := F_TT) (N := 6) hx hb hts in_TT hown hG.1 hP 1 rfl rfl 2 (by decide) (va_Nw.use rfl (hG.2.1 _ nw_2)) (fun _ h9 => h9) rfl d_MG_addPairs_110 ?_
          refine lv_iload hx hb d_MG_addPairs_113 (lv_at hl 0 rfl) ?_
          refine vp_callSi (va_runV (own := R_MG) (As := [.int (nI 1), .ref (ad 4), .int (nI q2)]) (rest := [.ref (so 15)]) ⟨hx, hb, hml, hown, hts⟩ (c_TT_partHolds2 (l := l) (g := g) (ad := ad) (so := so) (sw := sw) (I := I) (n := n) (v := v) (us := (va_up (va_up us 14 (mt_wd n)) 15 (mt_wd n))) (ct := (va_up (va_up ct 14 f) 15 f2)) (k := k) (a := a) (b := b) (ww := 1) (pp := q2) hT hn hw (by decide) (by omega)) (cwV 3 hts (gx_goodV wd_211 wd_212 wd_213 wd_3 wd_214) rfl rfl rfl (by decide +kernel) ⟨Nat.le_of_ble_eq_true rfl, Nat.le_of_ble_eq_true rfl⟩) (gc_preV (gc_recv hP hG (ci := 1) rfl (q0 := 1) rfl) hP hG) rfl rfl hl.1 rfl (lv_room (Nat.le_of_ble_eq_true rfl)) d_MG_addPairs_115 ⟨Nat.le_refl _, Nat.le_refl _⟩).run (fun r hr115 => ?_)
          subst hr115
          refine gc_caddE (u := mt_wd n) (f := f2) (by decide) (va_up_self _ _ _) (va_up_self _ _ _) (va_runV (own := R_MG) (As := [.int (nI (mt_ma (fun t => k t == 1 && Nat.testBit q2 (b t)) n))]) (rest := []) ⟨hx, hb, hml, hown, hts⟩ (c_PS_add (l := l) (g := g) (o := so 15) (w := sw 15) (cp := mt_cp 15) (u := mt_wd n) (f := f2) (x := mt_ma (fun t => k t == 1 && Nat.testBit q2 (b t)) n) (by have := mt_ma_lt (fun t => k t == 1 && Nat.testBit q2 (b t)) n; omega) (by first | omega | (rw [hu15]; exact mt_cp13 (by decide) (by decide) hn) | exact mt_cp13 (by decide) (by decide) hn) (mt_cp_le _)) (cwV 1 hts (gx_goodV wd_87 wd_88 wd_89 wd_4 wd_90) rfl rfl rfl (by decide +kernel) ⟨Nat.le_of_ble_eq_true rfl, Nat.le_of_ble_eq_true rfl⟩) (gc_preVW (gc_recv hP hG (ci := 0) rfl (cw_oE (k := 15) (u := mt_wd n) (by decide) (va_up_self _ _ _))) (cw_pickE hP (by decide) (va_up_self _ _ _) (va_up_self _ _ _)) hG (cw_pickDE hD (by decide) (va_up_self _ _ _) (va_up_self _ _ _))) rfl rfl hl.1 rfl (lv_room (Nat.le_of_ble_eq_true rfl)) d_MG_addPairs_118 ⟨Nat.le_refl _, Nat.le_refl _⟩) hP hD hS (fun f118 H locs hf118 hP hD hS => ?_)
          rw [bx_uu] at hP hD
          have hP : va_P g.1 gx_cl (cW g ad so sw I n v (va_up (va_up us 14 (mt_wd n)) 15 (mt_wd n)) (va_up (va_up ct 14 f) 15 f118)) H := hP
          have hD : va_D (gx_in (cW g ad so sw I n v us ct)) (cW g ad so sw I n v (va_up (va_up us 14 (mt_wd n)) 15 (mt_wd n)) (va_up (va_up ct 14 f) 15 f118)) := hD
          refine lv_aload_n hx hb d_MG_addPairs_121 rfl (lv_at hl 3 rfl) ?_
          refine lv_iload hx hb d_MG_addPairs_122 (lv_at hl 0 rfl) ?_
          refine lv_iconst (v := nI 1) hx hb d_MG_addPairs_124 (by decide) ?_
          refine lv_iadd hx hb d_MG_addPairs_125 ?_
          refine mt_ri (y := nI (q2 + 1)) (nI_add _ _) ?_
          refine vp_callSi (va_runV (own := R_MG) (As := [.int (nI (q2 + 1))]) (rest := []) ⟨hx, hb, hml, hown, hts⟩ (c_PS_nextFrom (l := l) (g := g) (o := so j) (w := sw j) (cp := mt_cp j) (u := uj) (f := Fj) (i := q2 + 1) (by omega) (by omega) (mt_cp_le _)) (cwV 1 hts (gx_goodV wd_200 wd_201 wd_202 wd_4 wd_203) rfl rfl rfl (by decide +kernel) ⟨Nat.le_of_ble_eq_true rfl, Nat.le_of_ble_eq_true rfl⟩) (gc_preV (gc_recv hP hG (ci := 0) rfl (cw_oE (k := j) (u := uj) (by omega) ((va_up_ne _ _ (by omega)).trans ((va_up_ne _ _ (by omega)).trans (huj))))) (cw_pickE hP (by omega) ((va_up_ne _ _ (by omega)).trans ((va_up_ne _ _ (by omega)).trans (huj))) ((va_up_ne _ _ (by omega)).trans ((va_up_ne _ _ (by omega)).trans (hfj)))) hG) rfl rfl hl.1 rfl (lv_room (Nat.le_of_ble_eq_true rfl)) d_MG_addPairs_126 ⟨Nat.le_refl _, Nat.le_refl _⟩).run (fun r hr126 => ?_)
          obtain ⟨q126, hq126, hn126⟩ := hr126
          subst hq126
          have hcu126 := mt_nx_cu hn126
          refine lv_istore (lv' := [(4, .int (nI q126)), (0, .ref (ad 0)), (1, .ref (so i)), (2, .ref (so j)), (3, .ref (so h))]) hx hb d_MG_addPairs_129 hl (by decide) rfl (fun ls hl => ?_)
          refine lv_goto (tgt := 88) hx hb d_MG_addPairs_131 (by decide) ?_
          exact ih88 _ (by have := hn126.1; omega) q126 f118 ls _ _ rfl (hcu126.1) (hcu126.2) (mt_mp_s hm2 (hqS2 (by omega)) hn126 hf118) (lv_sub hl [0, 1, 2, 3, 4] rfl) hP hD hS
      exact lp88 _ q83 f78 ls _ _ rfl (hcu83.1) (hcu83.2) (mt_mp_0 hn83 (mt_none hf78)) (lv_sub hl [0, 1, 2, 3, 4] rfl) hP hD hS
    · ---- 27F
      refine lv_aload_n hx hb d_MG_addPairs_30 rfl (lv_at hl 1 rfl) ?_
      refine va_get (D := g.1) (own := R_MG) (ref := R_MG) (ci := 2) (v := .ref (so 14)) (C := R_MG) (T := F_MG) (N := 6) hx hb hts in_MG hown hG.1 hP 0 rfl rfl 2 (by decide) (hts _ wd_95) (fun _ h9 => h9) rfl d_MG_addPairs_31 ?_
      refine lv_aload_n hx hb d_MG_addPairs_34 rfl (lv_at hl 1 rfl) ?_
      refine va_get (D := g.1) (own := R_MG) (ref := R_MG) (ci := 2) (v := .ref (ad 1)) (C := R_MG) (T := F_MG) (N := 6) hx hb hts in_MG hown hG.1 hP 0 rfl rfl 0 (by decide) (hts _ wd_91) (fun _ h9 => h9) rfl d_MG_addPairs_35 ?_
      refine lv_iconst (v := nI 1) hx hb d_MG_addPairs_38 (by decide) ?_
      refine lv_aload_n hx hb d_MG_addPairs_39 rfl (lv_at hl 1 rfl) ?_
      refine va_get (D := g.1) (own := R_MG) (ref := R_MG) (ci := 2) (v := .ref (ad 1)) (C := R_MG) (T := F_MG) (N := 6) hx hb hts in_MG hown hG.1 hP 0 rfl rfl 0 (by decide) (hts _ wd_91) (fun _ h9 => h9) rfl d_MG_addPairs_40 ?_
      refine va_getN (D := g.1) (own := R_MG) (ref := R_TT) (ci := 1) (v := .ref (ad 3)) (C := R_TT) (T := F_TT) (N := 6) hx hb hts in_TT hown hG.1 hP 1 rfl rfl 1 (by decide) (va_Nw.use rfl (hG.2.1 _ nw_1)) (fun _ h9 => h9) rfl d_MG_addPairs_43 ?_
      refine lv_iload hx hb d_MG_addPairs_46 (lv_at hl 0 rfl) ?_
      refine vp_callSi (va_runV (own := R_MG) (As := [.int (nI 1), .ref (ad 3), .int (nI q)]) (rest := [.ref (so 14)]) ⟨hx, hb, hml, hown, hts⟩ (c_TT_partHolds1 (l := l) (g := g) (ad := ad) (so := so) (sw := sw) (I := I) (n := n) (v := v) (us := (va_up us 14 (mt_wd n))) (ct := (va_up ct 14 f)) (k := k) (a := a) (b := b) (ww := 1) (pp := q) hT hn hw (by decide) (by omega)) (cwV 3 hts (gx_goodV wd_211 wd_212 wd_213 wd_3 wd_214) rfl rfl rfl (by decide +kernel) ⟨Nat.le_of_ble_eq_true rfl, Nat.le_of_ble_eq_true rfl⟩) (gc_preV (gc_recv hP hG (ci := 1) rfl (q0 := 1) rfl) hP hG) rfl rfl hl.1 rfl (lv_room (Nat.le_of_ble_eq_true rfl)) d_MG_addPairs_48 ⟨Nat.le_refl _, Nat.le_refl _⟩).run (fun r hr48 => ?_)
      subst hr48
      refine gc_caddE (u := mt_wd n) (f := f) (by decide) (va_up_self _ _ _) (va_up_self _ _ _) (va_runV (own := R_MG) (As := [.int (nI (mt_ma (fun t => k t == 1 && Nat.testBit q (a t)) n))]) (rest := []) ⟨hx, hb, hml, hown, hts⟩ (c_PS_add (l := l) (g := g) (o := so 14) (w := sw 14) (cp := mt_cp 14) (u := mt_wd n) (f := f) (x := mt_ma (fun t => k t == 1 && Nat.testBit q (a t)) n) (by have := mt_ma_lt (fun t => k t == 1 && Nat.testBit q (a t)) n; omega) (by first | omega | (rw [hu14]; exact mt_cp13 (by decide) (by decide) hn) | exact mt_cp13 (by decide) (by decide) hn) (mt_cp_le _)) (cwV 1 hts (gx_goodV wd_87 wd_88 wd_89 wd_4 wd_90) rfl rfl rfl (by decide +kernel) ⟨Nat.le_of_ble_eq_true rfl, Nat.le_of_ble_eq_true rfl⟩) (gc_preVW (gc_recv hP hG (ci := 0) rfl (cw_oE (k := 14) (u := mt_wd n) (by decide) (va_up_self _ _ _))) (cw_pickE hP (by decide) (va_up_self _ _ _) (va_up_self _ _ _)) hG (cw_pickDE hD (by decide) (va_up_self _ _ _) (va_up_self _ _ _))) rfl rfl hl.1 rfl (lv_room (Nat.le_of_ble_eq_true rfl)) d_MG_addPairs_51 ⟨Nat.le_refl _, Nat.le_refl _⟩) hP hD hS (fun f51 H locs hf51 hP hD hS => ?_)
      rw [bx_uu] at hP hD
      have hP : va_P g.1 gx_cl (cW g ad so sw I n v (va_up us 14 (mt_wd n)) (va_up ct 14 f51)) H := hP
      have hD : va_D (gx_in (cW g ad so sw I n v us ct)) (cW g ad so sw I n v (va_up us 14 (mt_wd n)) (va_up ct 14 f51)) := hD
      refine lv_aload_n hx hb d_MG_addPairs_54 rfl (lv_at hl 2 rfl) ?_
      refine lv_iload hx hb d_MG_addPairs_55 (lv_at hl 0 rfl) ?_
      refine lv_iconst (v := nI 1) hx hb d_MG_addPairs_57 (by decide) ?_
      refine lv_iadd hx hb d_MG_addPairs_58 ?_
      refine mt_ri (y := nI (q + 1)) (nI_add _ _) ?_
      refine vp_callSi (va_runV (own := R_MG) (As := [.int (nI (q + 1))]) (rest := []) ⟨hx, hb, hml, hown, hts⟩ (c_PS_nextFrom (l := l) (g := g) (o := so i) (w := sw i) (cp := mt_cp i) (u := ui) (f := Fi) (i := q + 1) (by omega) (by omega) (mt_cp_le _)) (cwV 1 hts (gx_goodV wd_200 wd_201 wd_202 wd_4 wd_203) rfl rfl rfl (by decide +kernel) ⟨Nat.le_of_ble_eq_true rfl, Nat.le_of_ble_eq_true rfl⟩) (gc_preV (gc_recv hP hG (ci := 0) rfl (cw_oE (k := i) (u := ui) (by omega) ((va_up_ne _ _ (by omega)).trans (hui)))) (cw_pickE hP (by omega) ((va_up_ne _ _ (by omega)).trans (hui)) ((va_up_ne _ _ (by omega)).trans (hfi))) hG) rfl rfl hl.1 rfl (lv_room (Nat.le_of_ble_eq_true rfl)) d_MG_addPairs_59 ⟨Nat.le_refl _, Nat.le_refl _⟩).run (fun r hr59 => ?_)
      obtain ⟨q59, hq59, hn59⟩ := hr59
      subst hq59
      have hcu59 := mt_nx_cu hn59
      refine lv_istore (lv' := [(4, .int (nI q59)), (0, .ref (ad 0)), (1, .ref (so i)), (2, .ref (so j)), (3, .ref (so h))]) hx hb d_MG_addPairs_62 hl (by decide) rfl (fun ls hl => ?_)
      refine lv_goto (tgt := 21) hx hb d_MG_addPairs_64 (by decide) ?_
      exact ih21 _ (by have := hn59.1; omega) q59 f51 ls _ _ rfl (hcu59.1) (hcu59.2) (mt_mp_s hm (hqS (by omega)) hn59 hf51) (lv_sub hl [0, 1, 2, 3, 4] rfl) hP hD hS
  exact lp21 _ q16 f11 ls _ _ rfl (hcu16.1) (hcu16.2) (mt_mp_0 hn16 (mt_none hf11)) (lv_sub hl [0, 1, 2, 3, 4] rfl) hP hD hS

set_option maxHeartbeats 4000000 in
set_option maxRecDepth 100000 in
theorem c_MG_addFunctions {g : gG} {ad so sw : Nat → Nat} {I : Nat → Nat → Int32} {n v : Nat} {us : Nat → Nat} {ct : Nat → Nat → Int64}{k a b : Nat → Nat} {i ui : Nat} {Fi : Nat → Int64} {h uh : Nat} {Fh : Nat → Int64} {l : Launch} (hT : mt_TR I n k a b) (hn : n ≤ 13) (hw : mt_wf k a b n) (hi : i < 14) (hih : i ≠ h) (hui : us i = ui) (hfi : ct i = Fi) (hucp : ui ≤ mt_cp i) (hh : h < 25) (hh16 : h < 14 ∨ 18 ≤ h) (huh : us h = uh) (hfh : ct h = Fh) (hcph : uh ≤ mt_cp h) (h2n : 2 ^ n ≤ 64 * uh) :
    gc_RV (S := gF5) l y_MG_addFunctions (gx_ws y_MG_addFunctions b_MG_addFunctions 5 none) 4 91 g [.ref (ad 0), .ref (so i), .ref (so h)] (cW g ad so sw I n v us ct) (fun (u : gF5) => cW g ad so sw I n v (va_up (va_up (va_up (va_up us 14 (mt_wd n)) 15 (mt_wd n)) 16 (mt_wd n)) 17 (mt_wd n)) (va_up (va_up (va_up (va_up (va_up ct 14 u.1) 15 u.2.1) 16 u.2.2.1) 17 u.2.2.2.1) h u.2.2.2.2)) (fun (u : gF5) => ∀ z, mt_el uh u.2.2.2.2 z ↔ (mt_el uh Fh z ∨ ∃ bf, mt_BF a b (mt_el ui Fi) bf ∧ z = mt_pf k a b (mt_rf k bf) n)) := by
  refine gx_body (by decide) (Nat.le_of_ble_eq_true rfl) ?_
  intro p e s m below meth c ls hAt hB hl
  obtain ⟨hx, hb, hml, hown, hts, hr, hlk, hnm⟩ := hAt
  have hown : s.vm.findClass R_MG = some m.cls := hown
  obtain ⟨⟨hP, hG⟩, hD0⟩ := hB
  have hD := gx_D.self hD0
  have hS : va_S (gx_in (cW g ad so sw I n v us ct)) s.heap s.heap [] := va_S.rf
  have hl : lv_has ls 5 [(0, .ref (ad 0)), (1, .ref (so i)), (2, .ref (so h))] := hl
  have hwd := mt_wd_le hn
  have har := mt_ma_lt (fun t => k t == 2) n
  have har2 : mt_ar k n < 2 ^ n := har
  have har13 := mt_lt13 har2 hn
  have hcph8 := mt_cp_le h
  refine lv_aload_n hx hb d_MG_addFunctions_0 rfl (lv_at hl 0 rfl) ?_
  refine va_get (D := g.1) (own := R_MG) (ref := R_MG) (ci := 2) (v := .ref (ad 1)) (C := R_MG) (T := F_MG) (N := 6) hx hb hts in_MG hown hG.1 hP 0 rfl rfl 0 (by decide) (hts _ wd_91) (fun _ h9 => h9) rfl d_MG_addFunctions_1 ?_
  refine lv_iconst (v := nI 2) hx hb d_MG_addFunctions_4 (by decide) ?_
  refine vp_callSi (va_runV (own := R_MG) (As := [.int (nI 2)]) (rest := []) ⟨hx, hb, hml, hown, hts⟩ (c_TT_allOfKind (l := l) (g := g) (ad := ad) (so := so) (sw := sw) (I := I) (n := n) (v := v) (us := us) (ct := ct) (k := k) (a := a) (b := b) (ww := 2) hT hn hw (by decide)) (cwV 1 hts (gx_goodV wd_224 wd_225 wd_226 wd_3 wd_227) rfl rfl rfl (by decide +kernel) ⟨Nat.le_of_ble_eq_true rfl, Nat.le_of_ble_eq_true rfl⟩) (gc_preV (gc_recv hP hG (ci := 1) rfl (q0 := 1) rfl) hP hG) rfl rfl hl.1 rfl (lv_room (Nat.le_of_ble_eq_true rfl)) d_MG_addFunctions_5 ⟨Nat.le_refl _, Nat.le_refl _⟩).run (fun r hr5 => ?_)
  subst hr5
  refine lv_istore_n (lv' := [(3, .int (nI (mt_ar k n))), (0, .ref (ad 0)), (1, .ref (so i)), (2, .ref (so h))]) hx hb d_MG_addFunctions_8 rfl hl (by decide) rfl (fun ls hl => ?_)
  refine lv_aload_n hx hb d_MG_addFunctions_9 rfl (lv_at hl 1 rfl) ?_
  refine lv_iload_n hx hb d_MG_addFunctions_10 rfl (lv_at hl 0 rfl) ?_
  refine lv_aload_n hx hb d_MG_addFunctions_11 rfl (lv_at hl 2 rfl) ?_
  refine gc_cwv (va_runV (own := R_MG) (As := [.int (nI (mt_ar k n)), .ref (so i)]) (rest := []) ⟨hx, hb, hml, hown, hts⟩ (c_MG_findStepsThatBreak (l := l) (g := g) (ad := ad) (so := so) (sw := sw) (I := I) (n := n) (v := v) (us := us) (ct := ct) (k := k) (a := a) (b := b) (i := i) (ui := ui) (Fi := Fi) hT hn hw hi hui hfi hucp) (cwV 2 hts (gx_goodV wd_228 wd_230 ws_5 wd_2 wd_231) rfl rfl rfl (by decide +kernel) ⟨Nat.le_of_ble_eq_true rfl, Nat.le_of_ble_eq_true rfl⟩) (gc_preVW (gc_recv hP hG (ci := 2) rfl (q0 := 0) rfl) hP hG hD) rfl rfl hl.1 rfl (lv_room (Nat.le_of_ble_eq_true rfl)) d_MG_addFunctions_12 ⟨Nat.le_refl _, Nat.le_refl _⟩) hD hS (fun u12 H locs hu12 hP hD hS => ?_)
  obtain ⟨u12_0, u12_1, u12_2⟩ := u12
  dsimp only at hP hD hu12
  have hP : va_P g.1 gx_cl (cW g ad so sw I n v (va_up (va_up (va_up us 14 (mt_wd n)) 15 (mt_wd n)) 16 (mt_wd n)) (va_up (va_up (va_up ct 14 u12_0) 15 u12_1) 16 u12_2)) H := hP
  have hD : va_D (gx_in (cW g ad so sw I n v us ct)) (cW g ad so sw I n v (va_up (va_up (va_up us 14 (mt_wd n)) 15 (mt_wd n)) 16 (mt_wd n)) (va_up (va_up (va_up ct 14 u12_0) 15 u12_1) 16 u12_2)) := hD
  refine lv_aload_n hx hb d_MG_addFunctions_15 rfl (lv_at hl 1 rfl) ?_
  refine gc_cwv (va_runV (own := R_MG) (As := []) (rest := []) ⟨hx, hb, hml, hown, hts⟩ (c_MG_uniteSteps (l := l) (g := g) (ad := ad) (so := so) (sw := sw) (I := I) (n := n) (v := v) (us := (va_up (va_up (va_up us 14 (mt_wd n)) 15 (mt_wd n)) 16 (mt_wd n))) (ct := (va_up (va_up (va_up ct 14 u12_0) 15 u12_1) 16 u12_2)) (C := u12_2) hn (va_up_self _ _ _) (va_up_self _ _ _) (by exact fun x hx => mt_stp_lt ((hu12 x).mp hx))) (cwV 0 hts (gx_goodV wd_232 wd_234 ws_6 wd_2 wd_235) rfl rfl rfl (by decide +kernel) ⟨Nat.le_of_ble_eq_true rfl, Nat.le_of_ble_eq_true rfl⟩) (gc_preVW (gc_recv hP hG (ci := 2) rfl (q0 := 0) rfl) hP hG hD) rfl rfl hl.1 rfl (lv_room (Nat.le_of_ble_eq_true rfl)) d_MG_addFunctions_16 ⟨Nat.le_refl _, Nat.le_refl _⟩) hD hS (fun u16 H locs hu16 hP hD hS => ?_)
  have hP : va_P g.1 gx_cl (cW g ad so sw I n v (va_up (va_up (va_up (va_up us 14 (mt_wd n)) 15 (mt_wd n)) 16 (mt_wd n)) 17 (mt_wd n)) (va_up (va_up (va_up (va_up ct 14 u12_0) 15 u12_1) 16 u12_2) 17 u16)) H := hP
  have hD : va_D (gx_in (cW g ad so sw I n v us ct)) (cW g ad so sw I n v (va_up (va_up (va_up (va_up us 14 (mt_wd n)) 15 (mt_wd n)) 16 (mt_wd n)) 17 (mt_wd n)) (va_up (va_up (va_up (va_up ct 14 u12_0) 15 u12_1) 16 u12_2) 17 u16)) := hD
  refine lv_aload_n hx hb d_MG_addFunctions_19 rfl (lv_at hl 1 rfl) ?_
  refine va_get (D := g.1) (own := R_MG) (ref := R_MG) (ci := 2) (v := .ref (so 17)) (C := R_MG) (T := F_MG) (N := 6) hx hb hts in_MG hown hG.1 hP 0 rfl rfl 5 (by decide) (hts _ wd_98) (fun _ h9 => h9) rfl d_MG_addFunctions_20 ?_
  refine lv_iconst (v := nI 0) hx hb d_MG_addFunctions_23 (by decide) ?_
  refine vp_callSi (va_runV (own := R_MG) (As := [.int (nI 0)]) (rest := []) ⟨hx, hb, hml, hown, hts⟩ (c_PS_nextFrom (l := l) (g := g) (o := so 17) (w := sw 17) (cp := mt_cp 17) (u := mt_wd n) (f := u16) (i := 0) (by omega) (by first | omega | (rw [hu17]; exact mt_cp13 (by decide) (by decide) hn) | exact mt_cp13 (by decide) (by decide) hn) (mt_cp_le _)) (cwV 1 hts (gx_goodV wd_200 wd_201 wd_202 wd_4 wd_203) rfl rfl rfl (by decide +kernel) ⟨Nat.le_of_ble_eq_true rfl, Nat.le_of_ble_eq_true rfl⟩) (gc_preV (gc_recv hP hG (ci := 0) rfl (cw_oE (k := 17) (u := mt_wd n) (by decide) (va_up_self _ _ _))) (cw_pickE hP (by decide) (va_up_self _ _ _) (va_up_self _ _ _)) hG) rfl rfl hl.1 rfl (lv_room (Nat.le_of_ble_eq_true rfl)) d_MG_addFunctions_24 ⟨Nat.le_refl _, Nat.le_refl _⟩).run (fun r hr24 => ?_)
  obtain ⟨q24, hq24, hn24⟩ := hr24
  subst hq24
  have hcu24 := mt_nx_cu hn24
  refine lv_istore (lv' := [(4, .int (nI q24)), (3, .int (nI (mt_ar k n))), (0, .ref (ad 0)), (1, .ref (so i)), (2, .ref (so h))]) hx hb d_MG_addFunctions_27 hl (by decide) rfl (fun ls hl => ?_)
  have lp29 : ∀ (d : Nat) (q : Nat) (f : Nat → Int64) (ls : Array Slot) (H : Heap) (locs : List Loc), d = 64 * mt_wd n - q → (q ≤ 64 * mt_wd n) → (q < 64 * mt_wd n → mt_el (mt_wd n) u16 q) → (mt_mp (mt_el (mt_wd n) u16) (fun x z => z = mt_pf k a b (fun t => Nat.testBit (mt_dif (mt_ar k n) x) t) n) (mt_el uh Fh) q (mt_el uh f)) → lv_has ls 5 [(4, .int (nI q)), (0, .ref (ad 0)), (2, .ref (so h)), (3, .int (nI (mt_ar k n)))] → va_P g.1 gx_cl (cW g ad so sw I n v (va_up (va_up (va_up (va_up us 14 (mt_wd n)) 15 (mt_wd n)) 16 (mt_wd n)) 17 (mt_wd n)) (va_up (va_up (va_up (va_up (va_up ct 14 u12_0) 15 u12_1) 16 u12_2) 17 u16) h f)) H → va_D (gx_in (cW g ad so sw I n v us ct)) (cW g ad so sw I n v (va_up (va_up (va_up (va_up us 14 (mt_wd n)) 15 (mt_wd n)) 16 (mt_wd n)) 17 (mt_wd n)) (va_up (va_up (va_up (va_up (va_up ct 14 u12_0) 15 u12_1) 16 u12_2) 17 u16) h f)) → va_S (gx_in (cW g ad so sw I n v us ct)) s.heap H locs → W p l e (gx_rm 4 91) s m ([.ref (ad 0), .ref (so i), .ref (so h)] : List Value).toArray below meth c H locs 0 0 (MQ below (va_Qv (fun (u : gF5) => ∀ z, mt_el uh u.2.2.2.2 z ↔ (mt_el uh Fh z ∨ ∃ bf, mt_BF a b (mt_el ui Fi) bf ∧ z = mt_pf k a b (mt_rf k bf) n)) (fun u9 t9 => va_P g.1 gx_cl ((fun (u : gF5) => cW g ad so sw I n v (va_up (va_up (va_up (va_up us 14 (mt_wd n)) 15 (mt_wd n)) 16 (mt_wd n)) 17 (mt_wd n)) (va_up (va_up (va_up (va_up (va_up ct 14 u.1) 15 u.2.1) 16 u.2.2.1) 17 u.2.2.2.1) h u.2.2.2.2)) u9) t9.heap ∧ va_D (gx_in (cW g ad so sw I n v us ct)) ((fun (u : gF5) => cW g ad so sw I n v (va_up (va_up (va_up (va_up us 14 (mt_wd n)) 15 (mt_wd n)) 16 (mt_wd n)) 17 (mt_wd n)) (va_up (va_up (va_up (va_up (va_up ct 14 u.1) 15 u.2.1) 16 u.2.2.1) 17 u.2.2.2.1) h u.2.2.2.2)) u9)) (gx_in (cW g ad so sw I n v us ct))) ([.ref (ad 0), .ref (so i), .ref (so h)] : List Value).toArray s 0 0 (gx_in (cW g ad so sw I n v us ct))) (F0 m 29 ls []) := by
    intro d
    induction d using Nat.strongRecOn with
    | ind d ih29 =>
    intro q f ls H locs hd hq hqS hm hl hP hD hS
    refine lv_iload hx hb d_MG_addFunctions_29 (lv_at hl 0 rfl) ?_
    refine lv_aload_n hx hb d_MG_addFunctions_31 rfl (lv_at hl 1 rfl) ?_
    refine va_get (D := g.1) (own := R_MG) (ref := R_MG) (ci := 2) (v := .ref (so 17)) (C := R_MG) (T := F_MG) (N := 6) hx hb hts in_MG hown hG.1 hP 0 rfl rfl 5 (by decide) (hts _ wd_98) (fun _ h9 => h9) rfl d_MG_addFunctions_32 ?_
    refine va_getN (D := g.1) (own := R_MG) (ref := R_PS) (ci := 0) (v := .int (nI (64 * (mt_wd n)))) (C := R_PS) (T := F_PS) (N := 3) hx hb hts in_PS hown hG.1 hP _ (cw_oE (k := 17) (u := mt_wd n) (by decide) (va_up_self _ _ _)) rfl 2 (by decide) (va_Nw.use rfl (hG.2.1 _ nw_7)) (fun _ h9 => h9) rfl d_MG_addFunctions_35 ?_
    refine lv_icmp_ge (tgt := 74) hx hb d_MG_addFunctions_38 (by decide) (mt_le (by omega) (by omega) fun hc38 => ?_) (mt_nle (by omega) (by omega) fun hc38 => ?_)
    · ---- 38T
      exact gc_retv (u := (u12_0, u12_1, u12_2, u16, f)) (Wf := fun (u : gF5) => cW g ad so sw I n v (va_up (va_up (va_up (va_up us 14 (mt_wd n)) 15 (mt_wd n)) 16 (mt_wd n)) 17 (mt_wd n)) (va_up (va_up (va_up (va_up (va_up ct 14 u.1) 15 u.2.1) 16 u.2.2.1) 17 u.2.2.2.1) h u.2.2.2.2)) (post := fun (u : gF5) => ∀ z, mt_el uh u.2.2.2.2 z ↔ (mt_el uh Fh z ∨ ∃ bf, mt_BF a b (mt_el ui Fi) bf ∧ z = mt_pf k a b (mt_rf k bf) n)) hx hb hr hlk (mt_funs_of hu12 hu16 (mt_mp_e hm (by omega))) hP hD hS d_MG_addFunctions_74
    · ---- 38F
      refine lv_aload_n hx hb d_MG_addFunctions_41 rfl (lv_at hl 2 rfl) ?_
      refine lv_aload_n hx hb d_MG_addFunctions_42 rfl (lv_at hl 1 rfl) ?_
      refine va_get (D := g.1) (own := R_MG) (ref := R_MG) (ci := 2) (v := .ref (ad 1)) (C := R_MG) (T := F_MG) (N := 6) hx hb hts in_MG hown hG.1 hP 0 rfl rfl 0 (by decide) (hts _ wd_91) (fun _ h9 => h9) rfl d_MG_addFunctions_43 ?_
      refine lv_iload_n hx hb d_MG_addFunctions_46 rfl (lv_at hl 3 rfl) ?_
      refine lv_iload hx hb d_MG_addFunctions_47 (lv_at hl 0 rfl) ?_
      refine lv_iconst (v := -1) hx hb d_MG_addFunctions_49 (by decide) ?_
      refine lv_ixor hx hb d_MG_addFunctions_50 ?_
      refine lv_iand hx hb d_MG_addFunctions_51 ?_
      refine mt_ri (y := nI (mt_dif (mt_ar k n) q)) (mt_andn _ _) ?_
      refine vp_callSi (va_runV (own := R_MG) (As := [.int (nI (mt_dif (mt_ar k n) q))]) (rest := [.ref (so h)]) ⟨hx, hb, hml, hown, hts⟩ (c_TT_profileFrom (l := l) (g := g) (ad := ad) (so := so) (sw := sw) (I := I) (n := n) (v := v) (us := (va_up (va_up (va_up (va_up us 14 (mt_wd n)) 15 (mt_wd n)) 16 (mt_wd n)) 17 (mt_wd n))) (ct := (va_up (va_up (va_up (va_up (va_up ct 14 u12_0) 15 u12_1) 16 u12_2) 17 u16) h f)) (k := k) (a := a) (b := b) (ro := mt_dif (mt_ar k n) q) (rr := fun t => Nat.testBit (mt_dif (mt_ar k n) q) t) hT hn hw (mt_fun_lt) (fun _ _ _ => rfl) (fun t ht h3 => mt_fun_hi ht h3)) (cwV 1 hts (gx_goodV wd_219 wd_189 wd_190 wd_3 wd_191) rfl rfl rfl (by decide +kernel) ⟨Nat.le_of_ble_eq_true rfl, Nat.le_of_ble_eq_true rfl⟩) (gc_preV (gc_recv hP hG (ci := 1) rfl (q0 := 1) rfl) hP hG) rfl rfl hl.1 rfl (lv_room (Nat.le_of_ble_eq_true rfl)) d_MG_addFunctions_52 ⟨Nat.le_refl _, Nat.le_refl _⟩).run (fun r hr52 => ?_)
      subst hr52
      refine gc_caddE (u := uh) (f := f) (by omega) ((va_up_ne _ _ (by omega)).trans ((va_up_ne _ _ (by omega)).trans ((va_up_ne _ _ (by omega)).trans ((va_up_ne _ _ (by omega)).trans (huh))))) (va_up_self _ _ _) (va_runV (own := R_MG) (As := [.int (nI (mt_pf k a b (fun t => Nat.testBit (mt_dif (mt_ar k n) q) t) n))]) (rest := []) ⟨hx, hb, hml, hown, hts⟩ (c_PS_add (l := l) (g := g) (o := so h) (w := sw h) (cp := mt_cp h) (u := uh) (f := f) (x := mt_pf k a b (fun t => Nat.testBit (mt_dif (mt_ar k n) q) t) n) (by have := mt_pf_lt k a b (fun t => Nat.testBit (mt_dif (mt_ar k n) q) t) n; omega) (by omega) (mt_cp_le _)) (cwV 1 hts (gx_goodV wd_87 wd_88 wd_89 wd_4 wd_90) rfl rfl rfl (by decide +kernel) ⟨Nat.le_of_ble_eq_true rfl, Nat.le_of_ble_eq_true rfl⟩) (gc_preVW (gc_recv hP hG (ci := 0) rfl (cw_oE (k := h) (u := uh) (by omega) ((va_up_ne _ _ (by omega)).trans ((va_up_ne _ _ (by omega)).trans ((va_up_ne _ _ (by omega)).trans ((va_up_ne _ _ (by omega)).trans (huh))))))) (cw_pickE hP (by omega) ((va_up_ne _ _ (by omega)).trans ((va_up_ne _ _ (by omega)).trans ((va_up_ne _ _ (by omega)).trans ((va_up_ne _ _ (by omega)).trans (huh))))) (va_up_self _ _ _)) hG (cw_pickDE hD (by omega) ((va_up_ne _ _ (by omega)).trans ((va_up_ne _ _ (by omega)).trans ((va_up_ne _ _ (by omega)).trans ((va_up_ne _ _ (by omega)).trans (huh))))) (va_up_self _ _ _))) rfl rfl hl.1 rfl (lv_room (Nat.le_of_ble_eq_true rfl)) d_MG_addFunctions_55 ⟨Nat.le_refl _, Nat.le_refl _⟩) hP hD hS (fun f55 H locs hf55 hP hD hS => ?_)
      rw [bx_uu] at hP hD
      have hP : va_P g.1 gx_cl (cW g ad so sw I n v (va_up (va_up (va_up (va_up us 14 (mt_wd n)) 15 (mt_wd n)) 16 (mt_wd n)) 17 (mt_wd n)) (va_up (va_up (va_up (va_up (va_up ct 14 u12_0) 15 u12_1) 16 u12_2) 17 u16) h f55)) H := hP
      have hD : va_D (gx_in (cW g ad so sw I n v us ct)) (cW g ad so sw I n v (va_up (va_up (va_up (va_up us 14 (mt_wd n)) 15 (mt_wd n)) 16 (mt_wd n)) 17 (mt_wd n)) (va_up (va_up (va_up (va_up (va_up ct 14 u12_0) 15 u12_1) 16 u12_2) 17 u16) h f55)) := hD
      refine lv_aload_n hx hb d_MG_addFunctions_58 rfl (lv_at hl 1 rfl) ?_
      refine va_get (D := g.1) (own := R_MG) (ref := R_MG) (ci := 2) (v := .ref (so 17)) (C := R_MG) (T := F_MG) (N := 6) hx hb hts in_MG hown hG.1 hP 0 rfl rfl 5 (by decide) (hts _ wd_98) (fun _ h9 => h9) rfl d_MG_addFunctions_59 ?_
      refine lv_iload hx hb d_MG_addFunctions_62 (lv_at hl 0 rfl) ?_
      refine lv_iconst (v := nI 1) hx hb d_MG_addFunctions_64 (by decide) ?_
      refine lv_iadd hx hb d_MG_addFunctions_65 ?_
      refine mt_ri (y := nI (q + 1)) (nI_add _ _) ?_
      refine vp_callSi (va_runV (own := R_MG) (As := [.int (nI (q + 1))]) (rest := []) ⟨hx, hb, hml, hown, hts⟩ (c_PS_nextFrom (l := l) (g := g) (o := so 17) (w := sw 17) (cp := mt_cp 17) (u := mt_wd n) (f := u16) (i := q + 1) (by omega) (by first | omega | (rw [hu17]; exact mt_cp13 (by decide) (by decide) hn) | exact mt_cp13 (by decide) (by decide) hn) (mt_cp_le _)) (cwV 1 hts (gx_goodV wd_200 wd_201 wd_202 wd_4 wd_203) rfl rfl rfl (by decide +kernel) ⟨Nat.le_of_ble_eq_true rfl, Nat.le_of_ble_eq_true rfl⟩) (gc_preV (gc_recv hP hG (ci := 0) rfl (cw_oE (k := 17) (u := mt_wd n) (by decide) (va_up_self _ _ _))) (cw_pickE hP (by decide) (va_up_self _ _ _) ((va_up_ne _ _ (by omega)).trans (va_up_self _ _ _))) hG) rfl rfl hl.1 rfl (lv_room (Nat.le_of_ble_eq_true rfl)) d_MG_addFunctions_66 ⟨Nat.le_refl _, Nat.le_refl _⟩).run (fun r hr66 => ?_)
      obtain ⟨q66, hq66, hn66⟩ := hr66
      subst hq66
      have hcu66 := mt_nx_cu hn66
      refine lv_istore (lv' := [(4, .int (nI q66)), (0, .ref (ad 0)), (2, .ref (so h)), (3, .int (nI (mt_ar k n)))]) hx hb d_MG_addFunctions_69 hl (by decide) rfl (fun ls hl => ?_)
      refine lv_goto (tgt := 29) hx hb d_MG_addFunctions_71 (by decide) ?_
      exact ih29 _ (by have := hn66.1; omega) q66 f55 ls _ _ rfl (hcu66.1) (hcu66.2) (mt_mp_s hm (hqS (by omega)) hn66 hf55) (lv_sub hl [0, 1, 2, 3] rfl) hP hD hS
  have hhc : (va_up (va_up (va_up (va_up ct 14 u12_0) 15 u12_1) 16 u12_2) 17 u16) h = Fh := (va_up_ne _ _ (by omega)).trans ((va_up_ne _ _ (by omega)).trans ((va_up_ne _ _ (by omega)).trans ((va_up_ne _ _ (by omega)).trans hfh)))
  have hP := (show va_P g.1 gx_cl (cW g ad so sw I n v (va_up (va_up (va_up (va_up us 14 (mt_wd n)) 15 (mt_wd n)) 16 (mt_wd n)) 17 (mt_wd n)) (va_up (va_up (va_up (va_up (va_up ct 14 u12_0) 15 u12_1) 16 u12_2) 17 u16) h Fh)) _ by rw [va_up_idE hhc]; exact hP)
  have hD := (show va_D (gx_in (cW g ad so sw I n v us ct)) (cW g ad so sw I n v (va_up (va_up (va_up (va_up us 14 (mt_wd n)) 15 (mt_wd n)) 16 (mt_wd n)) 17 (mt_wd n)) (va_up (va_up (va_up (va_up (va_up ct 14 u12_0) 15 u12_1) 16 u12_2) 17 u16) h Fh)) by rw [va_up_idE hhc]; exact hD)
  exact lp29 _ q24 Fh ls _ _ rfl (hcu24.1) (hcu24.2) (mt_mp_0 hn24 (fun _ => Iff.rfl)) (lv_sub hl [0, 2, 4, 1] rfl) hP hD hS
