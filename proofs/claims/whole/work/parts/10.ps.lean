theorem d_PS_init_0 : decode b_PS_init 0 = .ok (.aload_n 0, 1) := by decide +kernel
theorem d_PS_init_1 : decode b_PS_init 1 = .ok (.invokespecial 1, 3) := by decide +kernel
theorem d_PS_init_4 : decode b_PS_init 4 = .ok (.aload_n 0, 1) := by decide +kernel
theorem d_PS_init_5 : decode b_PS_init 5 = .ok (.iload_n 1, 1) := by decide +kernel
theorem d_PS_init_6 : decode b_PS_init 6 = .ok (.invokestatic 7, 3) := by decide +kernel
theorem d_PS_init_9 : decode b_PS_init 9 = .ok (.newarray .long, 2) := by decide +kernel
theorem d_PS_init_11 : decode b_PS_init 11 = .ok (.putfield 13, 3) := by decide +kernel
theorem d_PS_init_14 : decode b_PS_init 14 = .ok (.return_, 1) := by decide +kernel
theorem d_PS_wordsFor_0 : decode b_PS_wordsFor 0 = .ok (.iconst 1, 1) := by decide +kernel
theorem d_PS_wordsFor_1 : decode b_PS_wordsFor 1 = .ok (.iload_n 0, 1) := by decide +kernel
theorem d_PS_wordsFor_2 : decode b_PS_wordsFor 2 = .ok (.ishl, 1) := by decide +kernel
theorem d_PS_wordsFor_3 : decode b_PS_wordsFor 3 = .ok (.bipush 63, 2) := by decide +kernel
theorem d_PS_wordsFor_5 : decode b_PS_wordsFor 5 = .ok (.iadd, 1) := by decide +kernel
theorem d_PS_wordsFor_6 : decode b_PS_wordsFor 6 = .ok (.bipush 6, 2) := by decide +kernel
theorem d_PS_wordsFor_8 : decode b_PS_wordsFor 8 = .ok (.ishr, 1) := by decide +kernel
theorem d_PS_wordsFor_9 : decode b_PS_wordsFor 9 = .ok (.ireturn, 1) := by decide +kernel
theorem d_PS_restart_0 : decode b_PS_restart 0 = .ok (.aload_n 0, 1) := by decide +kernel
theorem d_PS_restart_1 : decode b_PS_restart 1 = .ok (.iload_n 1, 1) := by decide +kernel
theorem d_PS_restart_2 : decode b_PS_restart 2 = .ok (.invokestatic 7, 3) := by decide +kernel
theorem d_PS_restart_5 : decode b_PS_restart 5 = .ok (.aload_n 0, 1) := by decide +kernel
theorem d_PS_restart_6 : decode b_PS_restart 6 = .ok (.getfield 13, 3) := by decide +kernel
theorem d_PS_restart_9 : decode b_PS_restart 9 = .ok (.arraylength, 1) := by decide +kernel
theorem d_PS_restart_10 : decode b_PS_restart 10 = .ok (.invokestatic 17, 3) := by decide +kernel
theorem d_PS_restart_13 : decode b_PS_restart 13 = .ok (.putfield 23, 3) := by decide +kernel
theorem d_PS_restart_16 : decode b_PS_restart 16 = .ok (.aload_n 0, 1) := by decide +kernel
theorem d_PS_restart_17 : decode b_PS_restart 17 = .ok (.aload_n 0, 1) := by decide +kernel
theorem d_PS_restart_18 : decode b_PS_restart 18 = .ok (.getfield 23, 3) := by decide +kernel
theorem d_PS_restart_21 : decode b_PS_restart 21 = .ok (.bipush 6, 2) := by decide +kernel
theorem d_PS_restart_23 : decode b_PS_restart 23 = .ok (.ishl, 1) := by decide +kernel
theorem d_PS_restart_24 : decode b_PS_restart 24 = .ok (.putfield 27, 3) := by decide +kernel
theorem d_PS_restart_27 : decode b_PS_restart 27 = .ok (.iconst 0, 1) := by decide +kernel
theorem d_PS_restart_28 : decode b_PS_restart 28 = .ok (.istore_n 2, 1) := by decide +kernel
theorem d_PS_restart_29 : decode b_PS_restart 29 = .ok (.iload_n 2, 1) := by decide +kernel
theorem d_PS_restart_30 : decode b_PS_restart 30 = .ok (.aload_n 0, 1) := by decide +kernel
theorem d_PS_restart_31 : decode b_PS_restart 31 = .ok (.getfield 23, 3) := by decide +kernel
theorem d_PS_restart_34 : decode b_PS_restart 34 = .ok (.if_icmp .ge 16, 3) := by decide +kernel
theorem d_PS_restart_37 : decode b_PS_restart 37 = .ok (.aload_n 0, 1) := by decide +kernel
theorem d_PS_restart_38 : decode b_PS_restart 38 = .ok (.getfield 13, 3) := by decide +kernel
theorem d_PS_restart_41 : decode b_PS_restart 41 = .ok (.iload_n 2, 1) := by decide +kernel
theorem d_PS_restart_42 : decode b_PS_restart 42 = .ok (.lconst 0, 1) := by decide +kernel
theorem d_PS_restart_43 : decode b_PS_restart 43 = .ok (.lastore, 1) := by decide +kernel
theorem d_PS_restart_44 : decode b_PS_restart 44 = .ok (.iinc 2 1, 3) := by decide +kernel
theorem d_PS_restart_47 : decode b_PS_restart 47 = .ok (.goto (-18), 3) := by decide +kernel
theorem d_PS_restart_50 : decode b_PS_restart 50 = .ok (.return_, 1) := by decide +kernel
theorem d_PS_add_0 : decode b_PS_add 0 = .ok (.iload_n 1, 1) := by decide +kernel
theorem d_PS_add_1 : decode b_PS_add 1 = .ok (.ifCond .lt 29, 3) := by decide +kernel
theorem d_PS_add_4 : decode b_PS_add 4 = .ok (.iload_n 1, 1) := by decide +kernel
theorem d_PS_add_5 : decode b_PS_add 5 = .ok (.aload_n 0, 1) := by decide +kernel
theorem d_PS_add_6 : decode b_PS_add 6 = .ok (.getfield 27, 3) := by decide +kernel
theorem d_PS_add_9 : decode b_PS_add 9 = .ok (.if_icmp .ge 21, 3) := by decide +kernel
theorem d_PS_add_12 : decode b_PS_add 12 = .ok (.aload_n 0, 1) := by decide +kernel
theorem d_PS_add_13 : decode b_PS_add 13 = .ok (.getfield 13, 3) := by decide +kernel
theorem d_PS_add_16 : decode b_PS_add 16 = .ok (.iload_n 1, 1) := by decide +kernel
theorem d_PS_add_17 : decode b_PS_add 17 = .ok (.bipush 6, 2) := by decide +kernel
theorem d_PS_add_19 : decode b_PS_add 19 = .ok (.ishr, 1) := by decide +kernel
theorem d_PS_add_20 : decode b_PS_add 20 = .ok (.dup2, 1) := by decide +kernel
theorem d_PS_add_21 : decode b_PS_add 21 = .ok (.laload, 1) := by decide +kernel
theorem d_PS_add_22 : decode b_PS_add 22 = .ok (.lconst 1, 1) := by decide +kernel
theorem d_PS_add_23 : decode b_PS_add 23 = .ok (.iload_n 1, 1) := by decide +kernel
theorem d_PS_add_24 : decode b_PS_add 24 = .ok (.bipush 63, 2) := by decide +kernel
theorem d_PS_add_26 : decode b_PS_add 26 = .ok (.iand, 1) := by decide +kernel
theorem d_PS_add_27 : decode b_PS_add 27 = .ok (.lshl, 1) := by decide +kernel
theorem d_PS_add_28 : decode b_PS_add 28 = .ok (.lor, 1) := by decide +kernel
theorem d_PS_add_29 : decode b_PS_add 29 = .ok (.lastore, 1) := by decide +kernel
theorem d_PS_add_30 : decode b_PS_add 30 = .ok (.return_, 1) := by decide +kernel
theorem d_PS_has_0 : decode b_PS_has 0 = .ok (.iload_n 1, 1) := by decide +kernel
theorem d_PS_has_1 : decode b_PS_has 1 = .ok (.ifCond .lt 36, 3) := by decide +kernel
theorem d_PS_has_4 : decode b_PS_has 4 = .ok (.iload_n 1, 1) := by decide +kernel
theorem d_PS_has_5 : decode b_PS_has 5 = .ok (.aload_n 0, 1) := by decide +kernel
theorem d_PS_has_6 : decode b_PS_has 6 = .ok (.getfield 27, 3) := by decide +kernel
theorem d_PS_has_9 : decode b_PS_has 9 = .ok (.if_icmp .ge 28, 3) := by decide +kernel
theorem d_PS_has_12 : decode b_PS_has 12 = .ok (.aload_n 0, 1) := by decide +kernel
theorem d_PS_has_13 : decode b_PS_has 13 = .ok (.getfield 13, 3) := by decide +kernel
theorem d_PS_has_16 : decode b_PS_has 16 = .ok (.iload_n 1, 1) := by decide +kernel
theorem d_PS_has_17 : decode b_PS_has 17 = .ok (.bipush 6, 2) := by decide +kernel
theorem d_PS_has_19 : decode b_PS_has 19 = .ok (.ishr, 1) := by decide +kernel
theorem d_PS_has_20 : decode b_PS_has 20 = .ok (.laload, 1) := by decide +kernel
theorem d_PS_has_21 : decode b_PS_has 21 = .ok (.iload_n 1, 1) := by decide +kernel
theorem d_PS_has_22 : decode b_PS_has 22 = .ok (.bipush 63, 2) := by decide +kernel
theorem d_PS_has_24 : decode b_PS_has 24 = .ok (.iand, 1) := by decide +kernel
theorem d_PS_has_25 : decode b_PS_has 25 = .ok (.lshr, 1) := by decide +kernel
theorem d_PS_has_26 : decode b_PS_has 26 = .ok (.lconst 1, 1) := by decide +kernel
theorem d_PS_has_27 : decode b_PS_has 27 = .ok (.land, 1) := by decide +kernel
theorem d_PS_has_28 : decode b_PS_has 28 = .ok (.lconst 0, 1) := by decide +kernel
theorem d_PS_has_29 : decode b_PS_has 29 = .ok (.lcmp, 1) := by decide +kernel
theorem d_PS_has_30 : decode b_PS_has 30 = .ok (.ifCond .eq 7, 3) := by decide +kernel
theorem d_PS_has_33 : decode b_PS_has 33 = .ok (.iconst 1, 1) := by decide +kernel
theorem d_PS_has_34 : decode b_PS_has 34 = .ok (.goto 4, 3) := by decide +kernel
theorem d_PS_has_37 : decode b_PS_has 37 = .ok (.iconst 0, 1) := by decide +kernel
theorem d_PS_has_38 : decode b_PS_has 38 = .ok (.ireturn, 1) := by decide +kernel
theorem d_PS_nextFrom_0 : decode b_PS_nextFrom 0 = .ok (.iload_n 1, 1) := by decide +kernel
theorem d_PS_nextFrom_1 : decode b_PS_nextFrom 1 = .ok (.bipush 6, 2) := by decide +kernel
theorem d_PS_nextFrom_3 : decode b_PS_nextFrom 3 = .ok (.ishr, 1) := by decide +kernel
theorem d_PS_nextFrom_4 : decode b_PS_nextFrom 4 = .ok (.istore_n 2, 1) := by decide +kernel
theorem d_PS_nextFrom_5 : decode b_PS_nextFrom 5 = .ok (.iload_n 2, 1) := by decide +kernel
theorem d_PS_nextFrom_6 : decode b_PS_nextFrom 6 = .ok (.istore_n 3, 1) := by decide +kernel
theorem d_PS_nextFrom_7 : decode b_PS_nextFrom 7 = .ok (.iload_n 3, 1) := by decide +kernel
theorem d_PS_nextFrom_8 : decode b_PS_nextFrom 8 = .ok (.aload_n 0, 1) := by decide +kernel
theorem d_PS_nextFrom_9 : decode b_PS_nextFrom 9 = .ok (.getfield 23, 3) := by decide +kernel
theorem d_PS_nextFrom_12 : decode b_PS_nextFrom 12 = .ok (.if_icmp .ge 67, 3) := by decide +kernel
theorem d_PS_nextFrom_15 : decode b_PS_nextFrom 15 = .ok (.iload_n 3, 1) := by decide +kernel
theorem d_PS_nextFrom_16 : decode b_PS_nextFrom 16 = .ok (.iload_n 2, 1) := by decide +kernel
theorem d_PS_nextFrom_17 : decode b_PS_nextFrom 17 = .ok (.if_icmp .ne 21, 3) := by decide +kernel
theorem d_PS_nextFrom_20 : decode b_PS_nextFrom 20 = .ok (.aload_n 0, 1) := by decide +kernel
theorem d_PS_nextFrom_21 : decode b_PS_nextFrom 21 = .ok (.getfield 13, 3) := by decide +kernel
theorem d_PS_nextFrom_24 : decode b_PS_nextFrom 24 = .ok (.iload_n 3, 1) := by decide +kernel
theorem d_PS_nextFrom_25 : decode b_PS_nextFrom 25 = .ok (.laload, 1) := by decide +kernel
theorem d_PS_nextFrom_26 : decode b_PS_nextFrom 26 = .ok (.ldc2_w 30, 3) := by decide +kernel
theorem d_PS_nextFrom_29 : decode b_PS_nextFrom 29 = .ok (.iload_n 1, 1) := by decide +kernel
theorem d_PS_nextFrom_30 : decode b_PS_nextFrom 30 = .ok (.bipush 63, 2) := by decide +kernel
theorem d_PS_nextFrom_32 : decode b_PS_nextFrom 32 = .ok (.iand, 1) := by decide +kernel
theorem d_PS_nextFrom_33 : decode b_PS_nextFrom 33 = .ok (.lshl, 1) := by decide +kernel
theorem d_PS_nextFrom_34 : decode b_PS_nextFrom 34 = .ok (.land, 1) := by decide +kernel
theorem d_PS_nextFrom_35 : decode b_PS_nextFrom 35 = .ok (.goto 9, 3) := by decide +kernel
theorem d_PS_nextFrom_38 : decode b_PS_nextFrom 38 = .ok (.aload_n 0, 1) := by decide +kernel
theorem d_PS_nextFrom_39 : decode b_PS_nextFrom 39 = .ok (.getfield 13, 3) := by decide +kernel
theorem d_PS_nextFrom_42 : decode b_PS_nextFrom 42 = .ok (.iload_n 3, 1) := by decide +kernel
theorem d_PS_nextFrom_43 : decode b_PS_nextFrom 43 = .ok (.laload, 1) := by decide +kernel
theorem d_PS_nextFrom_44 : decode b_PS_nextFrom 44 = .ok (.lstore 4, 2) := by decide +kernel
theorem d_PS_nextFrom_46 : decode b_PS_nextFrom 46 = .ok (.lload 4, 2) := by decide +kernel
theorem d_PS_nextFrom_48 : decode b_PS_nextFrom 48 = .ok (.lconst 0, 1) := by decide +kernel
theorem d_PS_nextFrom_49 : decode b_PS_nextFrom 49 = .ok (.lcmp, 1) := by decide +kernel
theorem d_PS_nextFrom_50 : decode b_PS_nextFrom 50 = .ok (.ifCond .eq 23, 3) := by decide +kernel
theorem d_PS_nextFrom_53 : decode b_PS_nextFrom 53 = .ok (.iload_n 3, 1) := by decide +kernel
theorem d_PS_nextFrom_54 : decode b_PS_nextFrom 54 = .ok (.bipush 6, 2) := by decide +kernel
theorem d_PS_nextFrom_56 : decode b_PS_nextFrom 56 = .ok (.ishl, 1) := by decide +kernel
theorem d_PS_nextFrom_57 : decode b_PS_nextFrom 57 = .ok (.lload 4, 2) := by decide +kernel
theorem d_PS_nextFrom_59 : decode b_PS_nextFrom 59 = .ok (.lconst 1, 1) := by decide +kernel
theorem d_PS_nextFrom_60 : decode b_PS_nextFrom 60 = .ok (.lsub, 1) := by decide +kernel
theorem d_PS_nextFrom_61 : decode b_PS_nextFrom 61 = .ok (.lload 4, 2) := by decide +kernel
theorem d_PS_nextFrom_63 : decode b_PS_nextFrom 63 = .ok (.ldc2_w 30, 3) := by decide +kernel
theorem d_PS_nextFrom_66 : decode b_PS_nextFrom 66 = .ok (.lxor, 1) := by decide +kernel
theorem d_PS_nextFrom_67 : decode b_PS_nextFrom 67 = .ok (.land, 1) := by decide +kernel
theorem d_PS_nextFrom_68 : decode b_PS_nextFrom 68 = .ok (.invokestatic 32, 3) := by decide +kernel
theorem d_PS_nextFrom_71 : decode b_PS_nextFrom 71 = .ok (.iadd, 1) := by decide +kernel
theorem d_PS_nextFrom_72 : decode b_PS_nextFrom 72 = .ok (.ireturn, 1) := by decide +kernel
theorem d_PS_nextFrom_73 : decode b_PS_nextFrom 73 = .ok (.iinc 3 1, 3) := by decide +kernel
theorem d_PS_nextFrom_76 : decode b_PS_nextFrom 76 = .ok (.goto (-69), 3) := by decide +kernel
theorem d_PS_nextFrom_79 : decode b_PS_nextFrom 79 = .ok (.aload_n 0, 1) := by decide +kernel
theorem d_PS_nextFrom_80 : decode b_PS_nextFrom 80 = .ok (.getfield 27, 3) := by decide +kernel
theorem d_PS_nextFrom_83 : decode b_PS_nextFrom 83 = .ok (.ireturn, 1) := by decide +kernel
section PSW
set_option maxHeartbeats 4000000 in
set_option maxRecDepth 100000 in
theorem c_PS_wordsFor {g : gG} {b : Nat} {l : Launch} (hb13 : b ≤ 13) :
    gc_RO l y_PS_wordsFor (gx_ws y_PS_wordsFor b_PS_wordsFor 1 (some .int)) 0 0 g [.int (nI b)] (([] : va_W)) (fun r => r = nI (mt_wd b)) := by
  refine gx_body (by decide) (Nat.le_of_ble_eq_true rfl) ?_
  intro p e s m below meth c ls hAt hB hl
  obtain ⟨hx, hb, hml, hown, hts, hr, hlk, hnm⟩ := hAt
  have hown : s.vm.findClass R_PS = some m.cls := hown
  obtain ⟨hP, hG⟩ := hB
  have hl : lv_has ls 1 [(0, .int (nI b))] := hl
  have h13 := mt_p13 hb13
  refine lv_iconst (v := nI 1) hx hb d_PS_wordsFor_0 (by decide) ?_
  refine lv_iload_n hx hb d_PS_wordsFor_1 rfl (lv_at hl 0 rfl) ?_
  refine lv_ishl hx hb d_PS_wordsFor_2 ?_
  refine mt_ri (y := nI (2 ^ b)) (mt_shl (by omega)) ?_
  refine lv_bipush (v := nI 63) hx hb d_PS_wordsFor_3 (by decide) ?_
  refine lv_iadd hx hb d_PS_wordsFor_5 ?_
  refine mt_ri (y := nI (2 ^ b + 63)) (nI_add _ _) ?_
  refine lv_bipush (v := nI 6) hx hb d_PS_wordsFor_6 (by decide) ?_
  refine lv_ishr hx hb d_PS_wordsFor_8 ?_
  refine mt_ri (y := nI ((2 ^ b + 63) / 64)) (pk_shrN (by omega) _ 6 (by decide)) ?_
  exact gc_reti (post := fun r => r = nI (mt_wd b)) hx hb hr hlk (rfl) d_PS_wordsFor_9

set_option maxHeartbeats 4000000 in
set_option maxRecDepth 100000 in
theorem c_PS_restart {g : gG} {o w cp u : Nat} {f : Nat → Int64} {b : Nat} {l : Launch} (hb13 : b ≤ 13) (hcp : mt_wd b ≤ cp) (hcp2 : cp ≤ 128) :
    gc_RV (S := Nat → Int64) l y_PS_restart (gx_ws y_PS_restart b_PS_restart 3 none) 1 21 g [.ref o, .int (nI b)] (pW g o w cp u f) (fun u1 => pW g o w cp (mt_wd b) u1) (fun u1 => ∀ y, ¬ mt_el (mt_wd b) u1 y) := by
  refine gx_body (by decide) (Nat.le_of_ble_eq_true rfl) ?_
  intro p e s m below meth c ls hAt hB hl
  obtain ⟨hx, hb, hml, hown, hts, hr, hlk, hnm⟩ := hAt
  have hown : s.vm.findClass R_PS = some m.cls := hown
  obtain ⟨⟨hP, hG⟩, hD0⟩ := hB
  have hD := gx_D.self hD0
  have hS : va_S (gx_in (pW g o w cp u f)) s.heap s.heap [] := va_S.rf
  have hl : lv_has ls 3 [(0, .ref o), (1, .int (nI b))] := hl
  have hwd := mt_wd_le hb13
  refine lv_aload_n hx hb d_PS_restart_0 rfl (lv_at hl 0 rfl) ?_
  refine lv_iload_n hx hb d_PS_restart_1 rfl (lv_at hl 1 rfl) ?_
  refine vp_callSi (va_runS (own := R_PS) (As := [.int (nI b)]) (rest := [.ref o]) ⟨hx, hb, hml, hown, hts⟩ (c_PS_wordsFor (l := l) (g := g) (b := b) (by omega)) (va_cwS 1 hts (gx_goodS wd_64 wd_65 wd_4 wd_66) rfl rfl rfl (by decide +kernel) ⟨Nat.le_of_ble_eq_true rfl, Nat.le_of_ble_eq_true rfl⟩) (gc_preS (ws := []) (fun _ _ h => by cases h) hG) rfl rfl hl.1 rfl (lv_room (Nat.le_of_ble_eq_true rfl)) d_PS_restart_2 ⟨Nat.le_refl _, Nat.le_refl _⟩).run (fun r hr2 => ?_)
  subst hr2
  refine lv_aload_n hx hb d_PS_restart_5 rfl (lv_at hl 0 rfl) ?_
  refine va_get (D := g.1) (own := R_PS) (ref := R_PS) (ci := 0) (v := .ref w) (C := R_PS) (T := F_PS) (N := 3) hx hb hts in_PS hown hG.1 hP 0 rfl rfl 0 (by decide) (hts _ wd_67) (fun _ h9 => h9) rfl d_PS_restart_6 ?_
  refine va_alen (v := nI cp) hx hb hG.1 hP 1 2 rfl rfl rfl d_PS_restart_9 ?_
  refine va_mmin hx hb (by rw [hml]; exact hl.1.symm) hown (hts _ wd_84) (hts _ wd_85) (hts _ wd_5) (hts _ wd_86) (Nat.le_of_ble_eq_true rfl) (Nat.le_of_ble_eq_true rfl) (Nat.le_refl _) (Nat.le_refl _) d_PS_restart_10 ?_
  refine mt_ri (y := nI (mt_wd b)) (by by_cases h9 : nI cp < nI (mt_wd b); exact absurd ((nI_ltI (by omega) (by omega)).mp h9) (by omega); rw [if_neg h9]) ?_
  refine va_put (D := g.1) (own := R_PS) (ref := R_PS) (ci := 0) (v := .int (nI (mt_wd b))) (ty := .int) (C := R_PS) (T := F_PS) (N := 3) hx hb hts in_PS t_PS t_PS_ok n_PS hown hG.1 hP hD hS 0 rfl rfl 1 (by decide) (hts _ wd_68) (fun _ h9 => h9) rfl (by decide +kernel) rfl rfl (Nat.le_of_ble_eq_true rfl) d_PS_restart_13 (fun H locs hP hD hS => ?_)
  have hP : va_P g.1 gx_cl [(o, .inr (0, [.ref w, .int (nI (mt_wd b)), .int (nI (64 * u))])), (w, .inl (g.2 2, cp, .inr (.inl (f))))] H := hP
  have hD : va_D (gx_in (pW g o w cp u f)) [(o, .inr (0, [.ref w, .int (nI (mt_wd b)), .int (nI (64 * u))])), (w, .inl (g.2 2, cp, .inr (.inl (f))))] := hD
  refine lv_aload_n hx hb d_PS_restart_16 rfl (lv_at hl 0 rfl) ?_
  refine lv_aload_n hx hb d_PS_restart_17 rfl (lv_at hl 0 rfl) ?_
  refine va_get (D := g.1) (own := R_PS) (ref := R_PS) (ci := 0) (v := .int (nI (mt_wd b))) (C := R_PS) (T := F_PS) (N := 3) hx hb hts in_PS hown hG.1 hP 0 rfl rfl 1 (by decide) (hts _ wd_68) (fun _ h9 => h9) rfl d_PS_restart_18 ?_
  refine lv_bipush (v := nI 6) hx hb d_PS_restart_21 (by decide) ?_
  refine lv_ishl hx hb d_PS_restart_23 ?_
  refine mt_ri (y := nI ((mt_wd b) * 64)) (pk_shlN _ 6 (by decide) (by omega)) ?_
  refine mt_ri (y := nI (64 * mt_wd b)) (by rw [Nat.mul_comm]) ?_
  refine va_put (D := g.1) (own := R_PS) (ref := R_PS) (ci := 0) (v := .int (nI (64 * mt_wd b))) (ty := .int) (C := R_PS) (T := F_PS) (N := 3) hx hb hts in_PS t_PS t_PS_ok n_PS hown hG.1 hP hD hS 0 rfl rfl 2 (by decide) (hts _ wd_69) (fun _ h9 => h9) rfl (by decide +kernel) rfl rfl (Nat.le_of_ble_eq_true rfl) d_PS_restart_24 (fun H locs hP hD hS => ?_)
  have hP : va_P g.1 gx_cl [(o, .inr (0, [.ref w, .int (nI (mt_wd b)), .int (nI (64 * mt_wd b))])), (w, .inl (g.2 2, cp, .inr (.inl (f))))] H := hP
  have hD : va_D (gx_in (pW g o w cp u f)) [(o, .inr (0, [.ref w, .int (nI (mt_wd b)), .int (nI (64 * mt_wd b))])), (w, .inl (g.2 2, cp, .inr (.inl (f))))] := hD
  refine lv_iconst (v := nI 0) hx hb d_PS_restart_27 (by decide) ?_
  refine lv_istore_n (lv' := [(2, .int (nI 0)), (0, .ref o), (1, .int (nI b))]) hx hb d_PS_restart_28 rfl hl (by decide) rfl (fun ls hl => ?_)
  have lp29 : ∀ (d : Nat) (i : Nat) (f1 : Nat → Int64) (ls : Array Slot) (H : Heap) (locs : List Loc), d = mt_wd b - i → (i ≤ mt_wd b) → (∀ y, y < 64 * i → ¬ mt_bt f1 y) → lv_has ls 3 [(2, .int (nI i)), (0, .ref o), (1, .int (nI b))] → va_P g.1 gx_cl ([(o, .inr (0, [.ref w, .int (nI (mt_wd b)), .int (nI (64 * mt_wd b))])), (w, .inl (g.2 2, cp, .inr (.inl (f1))))]) H → va_D (gx_in (pW g o w cp u f)) ([(o, .inr (0, [.ref w, .int (nI (mt_wd b)), .int (nI (64 * mt_wd b))])), (w, .inl (g.2 2, cp, .inr (.inl (f1))))]) → va_S (gx_in (pW g o w cp u f)) s.heap H locs → W p l e (gx_rm 1 21) s m ([.ref o, .int (nI b)] : List Value).toArray below meth c H locs 0 0 (MQ below (va_Qv (fun u1 => ∀ y, ¬ mt_el (mt_wd b) u1 y) (fun u9 t9 => va_P g.1 gx_cl ((fun u1 => pW g o w cp (mt_wd b) u1) u9) t9.heap ∧ va_D (gx_in (pW g o w cp u f)) ((fun u1 => pW g o w cp (mt_wd b) u1) u9)) (gx_in (pW g o w cp u f))) ([.ref o, .int (nI b)] : List Value).toArray s 0 0 (gx_in (pW g o w cp u f))) (F0 m 29 ls []) := by
    intro d
    induction d using Nat.strongRecOn with
    | ind d ih29 =>
    intro i f1 ls H locs hd hi hz hl hP hD hS
    refine lv_iload_n hx hb d_PS_restart_29 rfl (lv_at hl 0 rfl) ?_
    refine lv_aload_n hx hb d_PS_restart_30 rfl (lv_at hl 1 rfl) ?_
    refine va_get (D := g.1) (own := R_PS) (ref := R_PS) (ci := 0) (v := .int (nI (mt_wd b))) (C := R_PS) (T := F_PS) (N := 3) hx hb hts in_PS hown hG.1 hP 0 rfl rfl 1 (by decide) (hts _ wd_68) (fun _ h9 => h9) rfl d_PS_restart_31 ?_
    refine lv_icmp_ge (tgt := 50) hx hb d_PS_restart_34 (by decide) (mt_le (by omega) (by omega) fun hc34 => ?_) (mt_nle (by omega) (by omega) fun hc34 => ?_)
    · ---- 34T
      exact gc_retv (u := (f1)) (Wf := fun u1 => pW g o w cp (mt_wd b) u1) (post := fun u1 => ∀ y, ¬ mt_el (mt_wd b) u1 y) hx hb hr hlk (fun y hy => hz y (by have := hy.1; omega) hy.2) hP hD hS d_PS_restart_50
    · ---- 34F
      refine lv_aload_n hx hb d_PS_restart_37 rfl (lv_at hl 1 rfl) ?_
      refine va_get (D := g.1) (own := R_PS) (ref := R_PS) (ci := 0) (v := .ref w) (C := R_PS) (T := F_PS) (N := 3) hx hb hts in_PS hown hG.1 hP 0 rfl rfl 0 (by decide) (hts _ wd_67) (fun _ h9 => h9) rfl d_PS_restart_38 ?_
      refine lv_iload_n hx hb d_PS_restart_41 rfl (lv_at hl 0 rfl) ?_
      refine lv_lconst (v := 0) hx hb d_PS_restart_42 (by decide) ?_
      refine va_last hx hb hG.1 hP hD hS 1 2 rfl rfl (vp_in_nI (by omega) (by omega)) d_PS_restart_43 (fun H locs hP hD hS => ?_)
      rw [nI_clamp (by omega)] at hP hD
      have hP : va_P g.1 gx_cl [(o, .inr (0, [.ref w, .int (nI (mt_wd b)), .int (nI (64 * mt_wd b))])), (w, .inl (g.2 2, cp, .inr (.inl (vp_updL f1 i 0))))] H := hP
      have hD : va_D (gx_in (pW g o w cp u f)) [(o, .inr (0, [.ref w, .int (nI (mt_wd b)), .int (nI (64 * mt_wd b))])), (w, .inl (g.2 2, cp, .inr (.inl (vp_updL f1 i 0))))] := hD
      refine lv_iinc (k := 0) (v := nI (i + 1)) (lv' := [(2, .int (nI (i + 1))), (0, .ref o), (1, .int (nI b))]) hx hb d_PS_restart_44 hl rfl (by rw [lit1]; exact nI_1 _) (by decide) rfl (fun ls hl => ?_)
      refine lv_goto (tgt := 29) hx hb d_PS_restart_47 (by decide) ?_
      exact ih29 _ (by omega) (i + 1) (vp_updL f1 i 0) ls _ _ rfl (by omega) (fun y hy => by rw [mt_bt_zero]; exact fun q => hz y (by have := q.2; omega) q.1) (lv_sub hl [0, 1, 2] rfl) hP hD hS
  exact lp29 _ 0 f ls _ _ rfl (Nat.zero_le _) (fun y hy => absurd hy (by omega)) (lv_sub hl [0, 1, 2] rfl) hP hD hS

set_option maxHeartbeats 4000000 in
set_option maxRecDepth 100000 in
theorem c_PS_add {g : gG} {o w cp u : Nat} {f : Nat → Int64} {x : Nat} {l : Launch} (hx64 : x < 64 * u) (hcp : u ≤ cp) (hcp2 : cp ≤ 128) :
    gc_RV (S := Nat → Int64) l y_PS_add (gx_ws y_PS_add b_PS_add 2 none) 0 0 g [.ref o, .int (nI x)] (pW g o w cp u f) (fun u1 => pW g o w cp u u1) (fun u1 => ∀ y, mt_el u u1 y ↔ (mt_el u f y ∨ y = x)) := by
  refine gx_body (by decide) (Nat.le_of_ble_eq_true rfl) ?_
  intro p e s m below meth c ls hAt hB hl
  obtain ⟨hx, hb, hml, hown, hts, hr, hlk, hnm⟩ := hAt
  have hown : s.vm.findClass R_PS = some m.cls := hown
  obtain ⟨⟨hP, hG⟩, hD0⟩ := hB
  have hD := gx_D.self hD0
  have hS : va_S (gx_in (pW g o w cp u f)) s.heap s.heap [] := va_S.rf
  have hl : lv_has ls 2 [(0, .ref o), (1, .int (nI x))] := hl
  refine lv_iload_n hx hb d_PS_add_0 rfl (lv_at hl 1 rfl) ?_
  refine lv_if_lt (tgt := 30) hx hb d_PS_add_1 (by decide) (mt_lt (b := 0) (by omega) (by decide) fun hc1 => ?_) (mt_nlt (b := 0) (by omega) (by decide) fun hc1 => ?_)
  · ---- 1T
    exact gc_retv (u := (f)) (Wf := fun u1 => pW g o w cp u u1) (post := fun u1 => ∀ y, mt_el u u1 y ↔ (mt_el u f y ∨ y = x)) hx hb hr hlk (absurd hc1 (by omega)) hP hD hS d_PS_add_30
  · ---- 1F
    refine lv_iload_n hx hb d_PS_add_4 rfl (lv_at hl 1 rfl) ?_
    refine lv_aload_n hx hb d_PS_add_5 rfl (lv_at hl 0 rfl) ?_
    refine va_get (D := g.1) (own := R_PS) (ref := R_PS) (ci := 0) (v := .int (nI (64 * u))) (C := R_PS) (T := F_PS) (N := 3) hx hb hts in_PS hown hG.1 hP 0 rfl rfl 2 (by decide) (hts _ wd_69) (fun _ h9 => h9) rfl d_PS_add_6 ?_
    refine lv_icmp_ge (tgt := 30) hx hb d_PS_add_9 (by decide) (mt_le (by omega) (by omega) fun hc9 => ?_) (mt_nle (by omega) (by omega) fun hc9 => ?_)
    · ---- 1F 9T
      exact gc_retv (u := (f)) (Wf := fun u1 => pW g o w cp u u1) (post := fun u1 => ∀ y, mt_el u u1 y ↔ (mt_el u f y ∨ y = x)) hx hb hr hlk (absurd hc9 (by omega)) hP hD hS d_PS_add_30
    · ---- 1F 9F
      refine lv_aload_n hx hb d_PS_add_12 rfl (lv_at hl 0 rfl) ?_
      refine va_get (D := g.1) (own := R_PS) (ref := R_PS) (ci := 0) (v := .ref w) (C := R_PS) (T := F_PS) (N := 3) hx hb hts in_PS hown hG.1 hP 0 rfl rfl 0 (by decide) (hts _ wd_67) (fun _ h9 => h9) rfl d_PS_add_13 ?_
      refine lv_iload_n hx hb d_PS_add_16 rfl (lv_at hl 1 rfl) ?_
      refine lv_bipush (v := nI 6) hx hb d_PS_add_17 (by decide) ?_
      refine lv_ishr hx hb d_PS_add_19 ?_
      refine mt_ri (y := nI (x / 64)) (pk_shrN (by omega) _ 6 (by decide)) ?_
      refine lv_dup2_11 hx hb d_PS_add_20 rfl rfl ?_
      refine va_lald hx hb hG.1 hP 1 2 rfl rfl (vp_in_nI (by omega) (by omega)) d_PS_add_21 ?_
      refine mt_rl (y := f (x / 64)) (by rw [nI_clamp (by omega)]) ?_
      refine lv_lconst (v := 1) hx hb d_PS_add_22 (by decide) ?_
      refine lv_iload_n hx hb d_PS_add_23 rfl (lv_at hl 1 rfl) ?_
      refine lv_bipush (v := nI 63) hx hb d_PS_add_24 (by decide) ?_
      refine lv_iand hx hb d_PS_add_26 ?_
      refine mt_ri (y := nI (x % 64)) (pk_andN (by omega) 6 (by decide)) ?_
      refine lv_lshl (v := 1 <<< ((nI (x % 64)).toInt64 &&& 63)) hx hb d_PS_add_27 rfl ?_
      refine lv_lor hx hb d_PS_add_28 ?_
      refine va_last hx hb hG.1 hP hD hS 1 2 rfl rfl (vp_in_nI (by omega) (by omega)) d_PS_add_29 (fun H locs hP hD hS => ?_)
      rw [nI_clamp (by omega)] at hP hD
      have hP : va_P g.1 gx_cl [(o, .inr (0, [.ref w, .int (nI u), .int (nI (64 * u))])), (w, .inl (g.2 2, cp, .inr (.inl (vp_updL f (x / 64) ((f (x / 64)) ||| (1 <<< ((nI (x % 64)).toInt64 &&& 63)))))))] H := hP
      have hD : va_D (gx_in (pW g o w cp u f)) [(o, .inr (0, [.ref w, .int (nI u), .int (nI (64 * u))])), (w, .inl (g.2 2, cp, .inr (.inl (vp_updL f (x / 64) ((f (x / 64)) ||| (1 <<< ((nI (x % 64)).toInt64 &&& 63)))))))] := hD
      exact gc_retv (u := (vp_updL f (x / 64) ((f (x / 64)) ||| (1 <<< ((nI (x % 64)).toInt64 &&& 63))))) (Wf := fun u1 => pW g o w cp u u1) (post := fun u1 => ∀ y, mt_el u u1 y ↔ (mt_el u f y ∨ y = x)) hx hb hr hlk (mt_el_put hx64) hP hD hS d_PS_add_30

set_option maxHeartbeats 4000000 in
set_option maxRecDepth 100000 in
theorem c_PS_has {g : gG} {o w cp u : Nat} {f : Nat → Int64} {x : Nat} {l : Launch} (hx64 : x < 64 * u) (hcp : u ≤ cp) (hcp2 : cp ≤ 128) :
    gc_RO l y_PS_has (gx_ws y_PS_has b_PS_has 2 (some .boolean)) 0 0 g [.ref o, .int (nI x)] (pW g o w cp u f) (fun r => ∃ z, r = mt_b z ∧ (z = true ↔ mt_el u f x)) := by
  refine gx_body (by decide) (Nat.le_of_ble_eq_true rfl) ?_
  intro p e s m below meth c ls hAt hB hl
  obtain ⟨hx, hb, hml, hown, hts, hr, hlk, hnm⟩ := hAt
  have hown : s.vm.findClass R_PS = some m.cls := hown
  obtain ⟨hP, hG⟩ := hB
  have hl : lv_has ls 2 [(0, .ref o), (1, .int (nI x))] := hl
  refine lv_iload_n hx hb d_PS_has_0 rfl (lv_at hl 1 rfl) ?_
  refine lv_if_lt (tgt := 37) hx hb d_PS_has_1 (by decide) (mt_lt (b := 0) (by omega) (by decide) fun hc1 => ?_) (mt_nlt (b := 0) (by omega) (by decide) fun hc1 => ?_)
  · ---- 1T
    refine lv_iconst (v := nI 0) hx hb d_PS_has_37 (by decide) ?_
    exact gc_retz (v := false) (post := fun r => ∃ z, r = mt_b z ∧ (z = true ↔ mt_el u f x)) hx hb hr hlk (absurd hc1 (by omega)) d_PS_has_38
  · ---- 1F
    refine lv_iload_n hx hb d_PS_has_4 rfl (lv_at hl 1 rfl) ?_
    refine lv_aload_n hx hb d_PS_has_5 rfl (lv_at hl 0 rfl) ?_
    refine va_get (D := g.1) (own := R_PS) (ref := R_PS) (ci := 0) (v := .int (nI (64 * u))) (C := R_PS) (T := F_PS) (N := 3) hx hb hts in_PS hown hG.1 hP 0 rfl rfl 2 (by decide) (hts _ wd_69) (fun _ h9 => h9) rfl d_PS_has_6 ?_
    refine lv_icmp_ge (tgt := 37) hx hb d_PS_has_9 (by decide) (mt_le (by omega) (by omega) fun hc9 => ?_) (mt_nle (by omega) (by omega) fun hc9 => ?_)
    · ---- 1F 9T
      refine lv_iconst (v := nI 0) hx hb d_PS_has_37 (by decide) ?_
      exact gc_retz (v := false) (post := fun r => ∃ z, r = mt_b z ∧ (z = true ↔ mt_el u f x)) hx hb hr hlk (absurd hc9 (by omega)) d_PS_has_38
    · ---- 1F 9F
      refine lv_aload_n hx hb d_PS_has_12 rfl (lv_at hl 0 rfl) ?_
      refine va_get (D := g.1) (own := R_PS) (ref := R_PS) (ci := 0) (v := .ref w) (C := R_PS) (T := F_PS) (N := 3) hx hb hts in_PS hown hG.1 hP 0 rfl rfl 0 (by decide) (hts _ wd_67) (fun _ h9 => h9) rfl d_PS_has_13 ?_
      refine lv_iload_n hx hb d_PS_has_16 rfl (lv_at hl 1 rfl) ?_
      refine lv_bipush (v := nI 6) hx hb d_PS_has_17 (by decide) ?_
      refine lv_ishr hx hb d_PS_has_19 ?_
      refine mt_ri (y := nI (x / 64)) (pk_shrN (by omega) _ 6 (by decide)) ?_
      refine va_lald hx hb hG.1 hP 1 2 rfl rfl (vp_in_nI (by omega) (by omega)) d_PS_has_20 ?_
      refine mt_rl (y := f (x / 64)) (by rw [nI_clamp (by omega)]) ?_
      refine lv_iload_n hx hb d_PS_has_21 rfl (lv_at hl 1 rfl) ?_
      refine lv_bipush (v := nI 63) hx hb d_PS_has_22 (by decide) ?_
      refine lv_iand hx hb d_PS_has_24 ?_
      refine mt_ri (y := nI (x % 64)) (pk_andN (by omega) 6 (by decide)) ?_
      refine lv_lshr (v := (f (x / 64)) >>> ((nI (x % 64)).toInt64 &&& 63)) hx hb d_PS_has_25 rfl ?_
      refine lv_lconst (v := 1) hx hb d_PS_has_26 (by decide) ?_
      refine lv_land hx hb d_PS_has_27 ?_
      refine mt_rl (y := if mt_lb (f (x / 64)) (x % 64) then 1 else 0) (mt_lb_shr (Nat.mod_lt _ (by decide)) _) ?_
      refine lv_lconst (v := 0) hx hb d_PS_has_28 (by decide) ?_
      refine W.lcmp hx hb d_PS_has_29 ?_
      refine lv_if_eq (tgt := 37) hx hb d_PS_has_30 (by decide) (mt_c0 fun hc30 => ?_) (mt_nc0 fun hc30 => ?_)
      · ---- 1F 9F 30T
        refine lv_iconst (v := nI 0) hx hb d_PS_has_37 (by decide) ?_
        exact gc_retz (v := false) (post := fun r => ∃ z, r = mt_b z ∧ (z = true ↔ mt_el u f x)) hx hb hr hlk (⟨false, rfl, (fun q => by cases q), (fun q => absurd q (mt_el_f hc30))⟩) d_PS_has_38
      · ---- 1F 9F 30F
        refine lv_iconst (v := nI 1) hx hb d_PS_has_33 (by decide) ?_
        refine lv_goto (tgt := 38) hx hb d_PS_has_34 (by decide) ?_
        exact gc_retz (v := true) (post := fun r => ∃ z, r = mt_b z ∧ (z = true ↔ mt_el u f x)) hx hb hr hlk (⟨true, rfl, (fun _ => mt_el_t hx64 hc30), (fun _ => rfl)⟩) d_PS_has_38
end PSW
