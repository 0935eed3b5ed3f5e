set_option maxHeartbeats 4000000 in
set_option maxRecDepth 100000 in
theorem c_MG_add {g : gG} {ad so sw : Nat → Nat} {I : Nat → Nat → Int32} {n v : Nat} {us : Nat → Nat} {ct : Nat → Nat → Int64}{k a b : Nat → Nat} {dp : Nat → Nat} {fc : Nat → Bool} {kk x y : Nat} {l : Launch} (hT0 : mt_TR I n k a b) (hE : mt_TE I n dp fc) (hn12 : n ≤ 12) (hdp : ∀ t, t < n → dp t ≤ 5) (hk6 : kk ≤ 6) (hxy : kk ≠ 0 → kk ≠ 6 → x < n ∧ y < n) (hw : mt_wf k a b (n + 1)) (hkn : k n = kk) (han : a n = x) (hbn : kk ≠ 0 → b n = y) (hR : mt_RW us ct n k a b) :
    gc_RW (S := (Nat → Nat → Int32) × (Nat → Nat) × (Nat → Nat → Int64)) l y_MG_add (gx_ws y_MG_add b_MG_add 8 (some .int)) 5 115 g [.ref (ad 0), .int (nI kk), .int (nI x), .int (nI y)] (cW g ad so sw I n v us ct) (fun (u : (Nat → Nat → Int32) × (Nat → Nat) × (Nat → Nat → Int64)) => cW g ad so sw u.1 (n + 1) v u.2.1 u.2.2) (fun r (u : (Nat → Nat → Int32) × (Nat → Nat) × (Nat → Nat → Int64)) => r = nI n ∧ mt_IN I n kk x y (mt_dd kk (dp x) (dp y)) (mt_ic kk (fc x) (fc y)) u.1 ∧ mt_RW u.2.1 u.2.2 (n + 1) k a b) := by
  refine gx_body (by decide) (Nat.le_of_ble_eq_true rfl) ?_
  intro p e s m below meth c ls hAt hB hl
  obtain ⟨hx, hb, hml, hown, hts, hr, hlk, hnm⟩ := hAt
  have hown : s.vm.findClass R_MG = some m.cls := hown
  obtain ⟨⟨hP, hG⟩, hD0⟩ := hB
  have hD := gx_D.self hD0
  have hS : va_S (gx_in (cW g ad so sw I n v us ct)) s.heap s.heap [] := va_S.rf
  have hl : lv_has ls 8 [(0, .ref (ad 0)), (1, .int (nI kk)), (2, .int (nI x)), (3, .int (nI y))] := hl
  have hn : n + 1 ≤ 13 := by omega
  have hwd := mt_wd_le hn
  have hwdn := mt_wd_le (show n ≤ 13 by omega)
  have hRn := hR n (Nat.le_refl n)
  have hun := hRn.1
  refine lv_aload_n hx hb d_MG_add_0 rfl (lv_at hl 0 rfl) ?_
  refine va_get (D := g.1) (own := R_MG) (ref := R_MG) (ci := 2) (v := .ref (ad 1)) (C := R_MG) (T := F_MG) (N := 6) hx hb hts in_MG hown hG.1 hP 0 rfl rfl 0 (by decide) (hts _ wd_91) (fun _ h9 => h9) rfl d_MG_add_1 ?_
  refine lv_iload_n hx hb d_MG_add_4 rfl (lv_at hl 1 rfl) ?_
  refine lv_iload_n hx hb d_MG_add_5 rfl (lv_at hl 2 rfl) ?_
  refine lv_iload_n hx hb d_MG_add_6 rfl (lv_at hl 3 rfl) ?_
  refine gc_cwi (va_runV (own := R_MG) (As := [.int (nI kk), .int (nI x), .int (nI y)]) (rest := []) ⟨hx, hb, hml, hown, hts⟩ (c_TT_add (l := l) (g := g) (ad := ad) (so := so) (sw := sw) (I := I) (n := n) (v := v) (us := us) (ct := ct) (dp := dp) (fc := fc) (kk := kk) (x := x) (y := y) hE hn12 hdp hk6 hxy) (cwV 3 hts (gx_goodV wd_166 wd_167 wd_168 wd_3 wd_169) rfl rfl rfl (by decide +kernel) ⟨Nat.le_of_ble_eq_true rfl, Nat.le_of_ble_eq_true rfl⟩) (gc_preVW (gc_recv hP hG (ci := 1) rfl (q0 := 1) rfl) hP hG hD) rfl rfl hl.1 rfl (lv_room (Nat.le_of_ble_eq_true rfl)) d_MG_add_7 ⟨Nat.le_refl _, Nat.le_refl _⟩) hD hS (fun r J H locs hr7 hP hD hS => ?_)
  obtain ⟨hr7, hJ⟩ := hr7
  subst hr7
  have hP : va_P g.1 gx_cl (cW g ad so sw J (n + 1) v us ct) H := hP
  have hD : va_D (gx_in (cW g ad so sw I n v us ct)) (cW g ad so sw J (n + 1) v us ct) := hD
  have hT := mt_TR_add hJ hT0 hkn han hbn
  refine lv_istore (lv' := [(4, .int (nI n)), (0, .ref (ad 0)), (1, .int (nI kk)), (2, .int (nI x)), (3, .int (nI y))]) hx hb d_MG_add_10 hl (by decide) rfl (fun ls hl => ?_)
  refine lv_aload_n hx hb d_MG_add_12 rfl (lv_at hl 1 rfl) ?_
  refine va_get (D := g.1) (own := R_MG) (ref := R_MG) (ci := 2) (v := .ref (ad 7)) (C := R_MG) (T := F_MG) (N := 6) hx hb hts in_MG hown hG.1 hP 0 rfl rfl 1 (by decide) (hts _ wd_94) (fun _ h9 => h9) rfl d_MG_add_13 ?_
  refine lv_iload hx hb d_MG_add_16 (lv_at hl 0 rfl) ?_
  refine va_aldq hx hb hG.1 hP 7 3 rfl rfl (vp_in_nI (by omega) (by decide)) d_MG_add_18 ?_
  refine mt_rv (w := .ref (so n)) (by rw [nI_clamp (by omega)]; rfl) ?_
  refine lv_astore (lv' := [(5, .ref (so n)), (4, .int (nI n)), (0, .ref (ad 0)), (1, .int (nI kk)), (2, .int (nI x)), (3, .int (nI y))]) hx hb d_MG_add_19 hl (by decide) rfl (fun ls hl => ?_)
  refine lv_aload_n hx hb d_MG_add_21 rfl (lv_at hl 2 rfl) ?_
  refine va_get (D := g.1) (own := R_MG) (ref := R_MG) (ci := 2) (v := .ref (ad 7)) (C := R_MG) (T := F_MG) (N := 6) hx hb hts in_MG hown hG.1 hP 0 rfl rfl 1 (by decide) (hts _ wd_94) (fun _ h9 => h9) rfl d_MG_add_22 ?_
  refine lv_iload hx hb d_MG_add_25 (lv_at hl 1 rfl) ?_
  refine lv_iconst (v := nI 1) hx hb d_MG_add_27 (by decide) ?_
  refine lv_iadd hx hb d_MG_add_28 ?_
  refine mt_ri (y := nI (n + 1)) (nI_add _ _) ?_
  refine va_aldq hx hb hG.1 hP 7 3 rfl rfl (vp_in_nI (by omega) (by decide)) d_MG_add_29 ?_
  refine mt_rv (w := .ref (so (n + 1))) (by rw [nI_clamp (by omega)]; rfl) ?_
  refine lv_astore (lv' := [(6, .ref (so (n + 1))), (5, .ref (so n)), (4, .int (nI n)), (0, .ref (ad 0)), (1, .int (nI kk)), (2, .int (nI x)), (3, .int (nI y))]) hx hb d_MG_add_30 hl (by decide) rfl (fun ls hl => ?_)
  refine lv_aload hx hb d_MG_add_32 (lv_at hl 0 rfl) ?_
  refine lv_aload_n hx hb d_MG_add_34 rfl (lv_at hl 3 rfl) ?_
  refine va_get (D := g.1) (own := R_MG) (ref := R_MG) (ci := 2) (v := .ref (ad 1)) (C := R_MG) (T := F_MG) (N := 6) hx hb hts in_MG hown hG.1 hP 0 rfl rfl 0 (by decide) (hts _ wd_91) (fun _ h9 => h9) rfl d_MG_add_35 ?_
  refine va_getN (D := g.1) (own := R_MG) (ref := R_TT) (ci := 1) (v := .int (nI (n + 1))) (C := R_TT) (T := F_TT) (N := 6) hx hb hts in_TT hown hG.1 hP 1 rfl rfl 5 (by decide) (va_Nw.use rfl (hG.2.1 _ nw_4)) (fun _ h9 => h9) rfl d_MG_add_38 ?_
  refine gc_cresE (u := us (n + 1)) (f := ct (n + 1)) (w1 := mt_wd (n + 1)) (by omega) rfl rfl (va_runV (own := R_MG) (As := [.int (nI (n + 1))]) (rest := []) ⟨hx, hb, hml, hown, hts⟩ (c_PS_restart (l := l) (g := g) (o := so (n + 1)) (w := sw (n + 1)) (cp := mt_cp (n + 1)) (u := us (n + 1)) (f := ct (n + 1)) (b := n + 1) (by omega) (by rw [mt_cpr (by omega)]; exact Nat.le_refl _) (mt_cp_le _)) (cwV 1 hts (gx_goodV wd_80 wd_81 wd_82 wd_4 wd_83) rfl rfl rfl (by decide +kernel) ⟨Nat.le_of_ble_eq_true rfl, Nat.le_of_ble_eq_true rfl⟩) (gc_preVW (gc_recv hP hG (ci := 0) rfl (cw_oE (k := n + 1) (u := us (n + 1)) (by omega) rfl)) (cw_pickE hP (by omega) rfl rfl) hG (cw_pickDE hD (by omega) rfl rfl)) rfl rfl hl.1 rfl (lv_room (Nat.le_of_ble_eq_true rfl)) d_MG_add_41 ⟨Nat.le_refl _, Nat.le_refl _⟩) hP hD hS (fun f41 H locs hf41 hP hD hS => ?_)
  have hP : va_P g.1 gx_cl (cW g ad so sw J (n + 1) v (va_up us (n + 1) (mt_wd (n + 1))) (va_up ct (n + 1) f41)) H := hP
  have hD : va_D (gx_in (cW g ad so sw I n v us ct)) (cW g ad so sw J (n + 1) v (va_up us (n + 1) (mt_wd (n + 1))) (va_up ct (n + 1) f41)) := hD
  refine lv_iconst (v := nI 0) hx hb d_MG_add_44 (by decide) ?_
  refine lv_istore (lv' := [(7, .int (nI 0)), (6, .ref (so (n + 1))), (5, .ref (so n)), (4, .int (nI n)), (0, .ref (ad 0)), (1, .int (nI kk)), (2, .int (nI x)), (3, .int (nI y))]) hx hb d_MG_add_45 hl (by decide) rfl (fun ls hl => ?_)
  have lp47 : ∀ (d : Nat) (ci : Nat) (f : Nat → Int64) (ls : Array Slot) (H : Heap) (locs : List Loc), d = 6 - ci → (ci ≤ 6) → (∀ z, mt_el (mt_wd (n + 1)) f z ↔ ∃ j, j < ci ∧ z = mt_pf k a b (mt_rc k a j) (n + 1)) → lv_has ls 8 [(7, .int (nI ci)), (0, .ref (ad 0)), (4, .int (nI n)), (5, .ref (so n)), (6, .ref (so (n + 1)))] → va_P g.1 gx_cl (cW g ad so sw J (n + 1) v (va_up us (n + 1) (mt_wd (n + 1))) (va_up ct (n + 1) f)) H → va_D (gx_in (cW g ad so sw I n v us ct)) (cW g ad so sw J (n + 1) v (va_up us (n + 1) (mt_wd (n + 1))) (va_up ct (n + 1) f)) → va_S (gx_in (cW g ad so sw I n v us ct)) s.heap H locs → W p l e (gx_rm 5 115) s m ([.ref (ad 0), .int (nI kk), .int (nI x), .int (nI y)] : List Value).toArray below meth c H locs 0 0 (MQ below (va_Qi (fun r (u : (Nat → Nat → Int32) × (Nat → Nat) × (Nat → Nat → Int64)) => r = nI n ∧ mt_IN I n kk x y (mt_dd kk (dp x) (dp y)) (mt_ic kk (fc x) (fc y)) u.1 ∧ mt_RW u.2.1 u.2.2 (n + 1) k a b) (fun u9 t9 => va_P g.1 gx_cl ((fun (u : (Nat → Nat → Int32) × (Nat → Nat) × (Nat → Nat → Int64)) => cW g ad so sw u.1 (n + 1) v u.2.1 u.2.2) u9) t9.heap ∧ va_D (gx_in (cW g ad so sw I n v us ct)) ((fun (u : (Nat → Nat → Int32) × (Nat → Nat) × (Nat → Nat → Int64)) => cW g ad so sw u.1 (n + 1) v u.2.1 u.2.2) u9)) (gx_in (cW g ad so sw I n v us ct))) ([.ref (ad 0), .int (nI kk), .int (nI x), .int (nI y)] : List Value).toArray s 0 0 (gx_in (cW g ad so sw I n v us ct))) (F0 m 47 ls []) := by
    intro d
    induction d using Nat.strongRecOn with
    | ind d ih47 =>
    intro ci f ls H locs hd hci hf hl hP hD hS
    refine lv_iload hx hb d_MG_add_47 (lv_at hl 0 rfl) ?_
    refine lv_bipush (v := nI 6) hx hb d_MG_add_49 (by decide) ?_
    refine lv_icmp_ge (tgt := 74) hx hb d_MG_add_51 (by decide) (mt_le (by omega) (by omega) fun hc51 => ?_) (mt_nle (by omega) (by omega) fun hc51 => ?_)
    · ---- 51T
      refine lv_aload_n hx hb d_MG_add_74 rfl (lv_at hl 1 rfl) ?_
      refine lv_aload hx hb d_MG_add_75 (lv_at hl 3 rfl) ?_
      refine lv_aload hx hb d_MG_add_77 (lv_at hl 3 rfl) ?_
      refine lv_aload hx hb d_MG_add_79 (lv_at hl 4 rfl) ?_
      refine gc_cwv (va_runV (own := R_MG) (As := [.ref (so n), .ref (so n), .ref (so (n + 1))]) (rest := []) ⟨hx, hb, hml, hown, hts⟩ (c_MG_addPairs (l := l) (g := g) (ad := ad) (so := so) (sw := sw) (I := J) (n := (n + 1)) (v := v) (us := (va_up us (n + 1) (mt_wd (n + 1)))) (ct := (va_up ct (n + 1) f)) (k := k) (a := a) (b := b) (i := n) (ui := mt_wd n) (Fi := ct n) (j := n) (uj := mt_wd n) (Fj := ct n) (h := n + 1) (uh := mt_wd (n + 1)) (Fh := f) hT hn hw (by omega) (by omega) (by omega) (by omega) (by omega) (by omega) ((va_up_ne _ _ (by omega)).trans (hun)) (va_up_ne _ _ (by omega)) (by rw [mt_cpr (by omega)]; exact Nat.le_refl _) ((va_up_ne _ _ (by omega)).trans (hun)) (va_up_ne _ _ (by omega)) (by rw [mt_cpr (by omega)]; exact Nat.le_refl _) (by omega) (by omega) (va_up_self _ _ _) (va_up_self _ _ _) (by rw [mt_cpr (by omega)]; exact Nat.le_refl _) (by omega)) (cwV 3 hts (gx_goodV wd_196 wd_197 wd_198 wd_2 wd_199) rfl rfl rfl (by decide +kernel) ⟨Nat.le_of_ble_eq_true rfl, Nat.le_of_ble_eq_true rfl⟩) (gc_preVW (gc_recv hP hG (ci := 2) rfl (q0 := 0) rfl) hP hG hD) rfl rfl hl.1 rfl (lv_room (Nat.le_of_ble_eq_true rfl)) d_MG_add_81 ⟨Nat.le_refl _, Nat.le_refl _⟩) hD hS (fun u81 H locs hu81 hP hD hS => ?_)
      obtain ⟨u81_0, u81_1, u81_2, u81_3⟩ := u81
      dsimp only at hP hD hu81
      have hP : va_P g.1 gx_cl (cW g ad so sw J (n + 1) v (va_up (va_up (va_up (va_up us (n + 1) (mt_wd (n + 1))) 14 (mt_wd (n + 1))) 15 (mt_wd (n + 1))) 16 (mt_wd (n + 1))) (va_up (va_up (va_up (va_up (va_up ct (n + 1) f) 14 u81_0) 15 u81_1) 16 u81_2) (n + 1) u81_3)) H := hP
      have hD : va_D (gx_in (cW g ad so sw I n v us ct)) (cW g ad so sw J (n + 1) v (va_up (va_up (va_up (va_up us (n + 1) (mt_wd (n + 1))) 14 (mt_wd (n + 1))) 15 (mt_wd (n + 1))) 16 (mt_wd (n + 1))) (va_up (va_up (va_up (va_up (va_up ct (n + 1) f) 14 u81_0) 15 u81_1) 16 u81_2) (n + 1) u81_3)) := hD
      refine lv_aload_n hx hb d_MG_add_84 rfl (lv_at hl 1 rfl) ?_
      refine lv_aload hx hb d_MG_add_85 (lv_at hl 3 rfl) ?_
      refine lv_aload hx hb d_MG_add_87 (lv_at hl 4 rfl) ?_
      refine gc_cwv (va_runV (own := R_MG) (As := [.ref (so n), .ref (so (n + 1))]) (rest := []) ⟨hx, hb, hml, hown, hts⟩ (c_MG_addFunctions (l := l) (g := g) (ad := ad) (so := so) (sw := sw) (I := J) (n := (n + 1)) (v := v) (us := (va_up (va_up (va_up (va_up us (n + 1) (mt_wd (n + 1))) 14 (mt_wd (n + 1))) 15 (mt_wd (n + 1))) 16 (mt_wd (n + 1)))) (ct := (va_up (va_up (va_up (va_up (va_up ct (n + 1) f) 14 u81_0) 15 u81_1) 16 u81_2) (n + 1) u81_3)) (k := k) (a := a) (b := b) (i := n) (ui := mt_wd n) (Fi := ct n) (h := n + 1) (uh := mt_wd (n + 1)) (Fh := u81_3) hT hn hw (by omega) (by omega) ((va_up_ne _ _ (by omega)).trans ((va_up_ne _ _ (by omega)).trans ((va_up_ne _ _ (by omega)).trans ((va_up_ne _ _ (by omega)).trans (hun))))) ((va_up_ne _ _ (by omega)).trans ((va_up_ne _ _ (by omega)).trans ((va_up_ne _ _ (by omega)).trans ((va_up_ne _ _ (by omega)).trans (va_up_ne _ _ (by omega)))))) (by rw [mt_cpr (by omega)]; exact Nat.le_refl _) (by omega) (by omega) ((va_up_ne _ _ (by omega)).trans ((va_up_ne _ _ (by omega)).trans ((va_up_ne _ _ (by omega)).trans (va_up_self _ _ _)))) (va_up_self _ _ _) (by rw [mt_cpr (by omega)]; exact Nat.le_refl _) (by omega)) (cwV 2 hts (gx_goodV wd_220 wd_222 ws_4 wd_2 wd_223) rfl rfl rfl (by decide +kernel) ⟨Nat.le_of_ble_eq_true rfl, Nat.le_of_ble_eq_true rfl⟩) (gc_preVW (gc_recv hP hG (ci := 2) rfl (q0 := 0) rfl) hP hG hD) rfl rfl hl.1 rfl (lv_room (Nat.le_of_ble_eq_true rfl)) d_MG_add_89 ⟨Nat.le_refl _, Nat.le_refl _⟩) hD hS (fun u89 H locs hu89 hP hD hS => ?_)
      obtain ⟨u89_0, u89_1, u89_2, u89_3, u89_4⟩ := u89
      dsimp only at hP hD hu89
      have hP : va_P g.1 gx_cl (cW g ad so sw J (n + 1) v (va_up (va_up (va_up (va_up (va_up (va_up (va_up (va_up us (n + 1) (mt_wd (n + 1))) 14 (mt_wd (n + 1))) 15 (mt_wd (n + 1))) 16 (mt_wd (n + 1))) 14 (mt_wd (n + 1))) 15 (mt_wd (n + 1))) 16 (mt_wd (n + 1))) 17 (mt_wd (n + 1))) (va_up (va_up (va_up (va_up (va_up (va_up (va_up (va_up (va_up (va_up ct (n + 1) f) 14 u81_0) 15 u81_1) 16 u81_2) (n + 1) u81_3) 14 u89_0) 15 u89_1) 16 u89_2) 17 u89_3) (n + 1) u89_4)) H := hP
      have hD : va_D (gx_in (cW g ad so sw I n v us ct)) (cW g ad so sw J (n + 1) v (va_up (va_up (va_up (va_up (va_up (va_up (va_up (va_up us (n + 1) (mt_wd (n + 1))) 14 (mt_wd (n + 1))) 15 (mt_wd (n + 1))) 16 (mt_wd (n + 1))) 14 (mt_wd (n + 1))) 15 (mt_wd (n + 1))) 16 (mt_wd (n + 1))) 17 (mt_wd (n + 1))) (va_up (va_up (va_up (va_up (va_up (va_up (va_up (va_up (va_up (va_up ct (n + 1) f) 14 u81_0) 15 u81_1) 16 u81_2) (n + 1) u81_3) 14 u89_0) 15 u89_1) 16 u89_2) 17 u89_3) (n + 1) u89_4)) := hD
      have hfin : mt_RW (va_up (va_up (va_up (va_up (va_up (va_up (va_up (va_up us (n + 1) (mt_wd (n + 1))) 14 (mt_wd (n + 1))) 15 (mt_wd (n + 1))) 16 (mt_wd (n + 1))) 14 (mt_wd (n + 1))) 15 (mt_wd (n + 1))) 16 (mt_wd (n + 1))) 17 (mt_wd (n + 1))) (va_up (va_up (va_up (va_up (va_up (va_up (va_up (va_up (va_up (va_up ct (n + 1) f) 14 u81_0) 15 u81_1) 16 u81_2) (n + 1) u81_3) 14 u89_0) 15 u89_1) 16 u89_2) 17 u89_3) (n + 1) u89_4) (n + 1) k a b := by
        intro j hj
        by_cases e9 : j = n + 1
        · subst e9
          rw [show (va_up (va_up (va_up (va_up (va_up (va_up (va_up (va_up us (n + 1) (mt_wd (n + 1))) 14 (mt_wd (n + 1))) 15 (mt_wd (n + 1))) 16 (mt_wd (n + 1))) 14 (mt_wd (n + 1))) 15 (mt_wd (n + 1))) 16 (mt_wd (n + 1))) 17 (mt_wd (n + 1))) (n + 1) = mt_wd (n + 1) from ((va_up_ne _ _ (by omega)).trans ((va_up_ne _ _ (by omega)).trans ((va_up_ne _ _ (by omega)).trans ((va_up_ne _ _ (by omega)).trans ((va_up_ne _ _ (by omega)).trans ((va_up_ne _ _ (by omega)).trans ((va_up_ne _ _ (by omega)).trans (va_up_self _ _ _)))))))), show (va_up (va_up (va_up (va_up (va_up (va_up (va_up (va_up (va_up (va_up ct (n + 1) f) 14 u81_0) 15 u81_1) 16 u81_2) (n + 1) u81_3) 14 u89_0) 15 u89_1) 16 u89_2) 17 u89_3) (n + 1) u89_4) (n + 1) = u89_4 from (va_up_self _ _ _)]
          exact ⟨rfl, mt_Rrow (S := mt_el (mt_wd n) (ct n)) (fun z => by rw [← hun]; exact hRn.2 z) (fun z => by rw [show (6 : Nat) = ci by omega]; exact hf z) hu81 hu89⟩
        · rw [show (va_up (va_up (va_up (va_up (va_up (va_up (va_up (va_up us (n + 1) (mt_wd (n + 1))) 14 (mt_wd (n + 1))) 15 (mt_wd (n + 1))) 16 (mt_wd (n + 1))) 14 (mt_wd (n + 1))) 15 (mt_wd (n + 1))) 16 (mt_wd (n + 1))) 17 (mt_wd (n + 1))) j = us j from ((va_up_ne _ _ (by omega)).trans ((va_up_ne _ _ (by omega)).trans ((va_up_ne _ _ (by omega)).trans ((va_up_ne _ _ (by omega)).trans ((va_up_ne _ _ (by omega)).trans ((va_up_ne _ _ (by omega)).trans ((va_up_ne _ _ (by omega)).trans (va_up_ne _ _ (by omega))))))))), show (va_up (va_up (va_up (va_up (va_up (va_up (va_up (va_up (va_up (va_up ct (n + 1) f) 14 u81_0) 15 u81_1) 16 u81_2) (n + 1) u81_3) 14 u89_0) 15 u89_1) 16 u89_2) 17 u89_3) (n + 1) u89_4) j = ct j from ((va_up_ne _ _ (by omega)).trans ((va_up_ne _ _ (by omega)).trans ((va_up_ne _ _ (by omega)).trans ((va_up_ne _ _ (by omega)).trans ((va_up_ne _ _ (by omega)).trans ((va_up_ne _ _ (by omega)).trans ((va_up_ne _ _ (by omega)).trans ((va_up_ne _ _ (by omega)).trans ((va_up_ne _ _ (by omega)).trans (va_up_ne _ _ (by omega)))))))))))]
          exact hR j (by omega)
      refine lv_iload hx hb d_MG_add_92 (lv_at hl 2 rfl) ?_
      exact gc_retwi (u := (J, va_up (va_up (va_up (va_up (va_up (va_up (va_up (va_up us (n + 1) (mt_wd (n + 1))) 14 (mt_wd (n + 1))) 15 (mt_wd (n + 1))) 16 (mt_wd (n + 1))) 14 (mt_wd (n + 1))) 15 (mt_wd (n + 1))) 16 (mt_wd (n + 1))) 17 (mt_wd (n + 1)), va_up (va_up (va_up (va_up (va_up (va_up (va_up (va_up (va_up (va_up ct (n + 1) f) 14 u81_0) 15 u81_1) 16 u81_2) (n + 1) u81_3) 14 u89_0) 15 u89_1) 16 u89_2) 17 u89_3) (n + 1) u89_4)) (Wf := fun (u : (Nat → Nat → Int32) × (Nat → Nat) × (Nat → Nat → Int64)) => cW g ad so sw u.1 (n + 1) v u.2.1 u.2.2) (post := fun r (u : (Nat → Nat → Int32) × (Nat → Nat) × (Nat → Nat → Int64)) => r = nI n ∧ mt_IN I n kk x y (mt_dd kk (dp x) (dp y)) (mt_ic kk (fc x) (fc y)) u.1 ∧ mt_RW u.2.1 u.2.2 (n + 1) k a b) hx hb hr hlk (⟨rfl, hJ, hfin⟩) hP hD hS d_MG_add_94
    · ---- 51F
      refine lv_aload hx hb d_MG_add_54 (lv_at hl 4 rfl) ?_
      refine lv_aload_n hx hb d_MG_add_56 rfl (lv_at hl 1 rfl) ?_
      refine va_get (D := g.1) (own := R_MG) (ref := R_MG) (ci := 2) (v := .ref (ad 1)) (C := R_MG) (T := F_MG) (N := 6) hx hb hts in_MG hown hG.1 hP 0 rfl rfl 0 (by decide) (hts _ wd_91) (fun _ h9 => h9) rfl d_MG_add_57 ?_
      refine lv_iload hx hb d_MG_add_60 (lv_at hl 0 rfl) ?_
      refine vp_callSi (va_runV (own := R_MG) (As := [.int (nI ci)]) (rest := [.ref (so (n + 1))]) ⟨hx, hb, hml, hown, hts⟩ (c_TT_profileOfConstant (l := l) (g := g) (ad := ad) (so := so) (sw := sw) (I := J) (n := (n + 1)) (v := v) (us := (va_up us (n + 1) (mt_wd (n + 1)))) (ct := (va_up ct (n + 1) f)) (k := k) (a := a) (b := b) (cc0 := ci) hT hn hw (by omega)) (cwV 1 hts (gx_goodV wd_181 wd_182 wd_183 wd_3 wd_184) rfl rfl rfl (by decide +kernel) ⟨Nat.le_of_ble_eq_true rfl, Nat.le_of_ble_eq_true rfl⟩) (gc_preV (gc_recv hP hG (ci := 1) rfl (q0 := 1) rfl) hP hG) rfl rfl hl.1 rfl (lv_room (Nat.le_of_ble_eq_true rfl)) d_MG_add_62 ⟨Nat.le_refl _, Nat.le_refl _⟩).run (fun r hr62 => ?_)
      subst hr62
      refine gc_caddE (u := mt_wd (n + 1)) (f := f) (by omega) (va_up_self _ _ _) (va_up_self _ _ _) (va_runV (own := R_MG) (As := [.int (nI (mt_pf k a b (mt_rc k a ci) (n + 1)))]) (rest := []) ⟨hx, hb, hml, hown, hts⟩ (c_PS_add (l := l) (g := g) (o := so (n + 1)) (w := sw (n + 1)) (cp := mt_cp (n + 1)) (u := mt_wd (n + 1)) (f := f) (x := mt_pf k a b (mt_rc k a ci) (n + 1)) (by have := mt_pf_lt k a b (mt_rc k a ci) (n + 1); omega) (by rw [mt_cpr (by omega)]; exact Nat.le_refl _) (mt_cp_le _)) (cwV 1 hts (gx_goodV wd_87 wd_88 wd_89 wd_4 wd_90) rfl rfl rfl (by decide +kernel) ⟨Nat.le_of_ble_eq_true rfl, Nat.le_of_ble_eq_true rfl⟩) (gc_preVW (gc_recv hP hG (ci := 0) rfl (cw_oE (k := n + 1) (u := mt_wd (n + 1)) (by omega) (va_up_self _ _ _))) (cw_pickE hP (by omega) (va_up_self _ _ _) (va_up_self _ _ _)) hG (cw_pickDE hD (by omega) (va_up_self _ _ _) (va_up_self _ _ _))) rfl rfl hl.1 rfl (lv_room (Nat.le_of_ble_eq_true rfl)) d_MG_add_65 ⟨Nat.le_refl _, Nat.le_refl _⟩) hP hD hS (fun f65 H locs hf65 hP hD hS => ?_)
      rw [bx_uu] at hP hD
      have hP : va_P g.1 gx_cl (cW g ad so sw J (n + 1) v (va_up us (n + 1) (mt_wd (n + 1))) (va_up ct (n + 1) f65)) H := hP
      have hD : va_D (gx_in (cW g ad so sw I n v us ct)) (cW g ad so sw J (n + 1) v (va_up us (n + 1) (mt_wd (n + 1))) (va_up ct (n + 1) f65)) := hD
      refine lv_iinc (k := 0) (v := nI (ci + 1)) (lv' := [(7, .int (nI (ci + 1))), (0, .ref (ad 0)), (4, .int (nI n)), (5, .ref (so n)), (6, .ref (so (n + 1)))]) hx hb d_MG_add_68 hl rfl (by rw [lit1]; exact nI_1 _) (by decide) rfl (fun ls hl => ?_)
      refine lv_goto (tgt := 47) hx hb d_MG_add_71 (by decide) ?_
      exact ih47 _ (by omega) (ci + 1) f65 ls _ _ rfl (by omega) (mt_cstep hf hf65) (lv_sub hl [0, 1, 2, 3, 4] rfl) hP hD hS
  exact lp47 _ 0 f41 ls _ _ rfl (by decide) (fun z => ⟨fun h9 => absurd h9 (hf41 z), fun ⟨_, h9, _⟩ => absurd h9 (by omega)⟩) (lv_sub hl [0, 4, 3, 2, 1] rfl) hP hD hS
