set_option maxHeartbeats 4000000 in
set_option maxRecDepth 100000 in
theorem c_MM_addStep {g : gG} {md : Nat → Nat} {J : Nat → Nat → Int32} {n v kn pr ar : Nat} {X : Nat → Int64} {sx : Nat} {l : Launch} (har13 : ar ≤ 13) (hsx : sx < 2 ^ ar) (hcs : mt_cs ar X) :
    gc_RW (S := Nat → Int64) l y_MM_addStep (gx_ws y_MM_addStep b_MM_addStep 3 (some .boolean)) 2 45 g [.ref (md 0), .int (nI sx)] (mW g md J n v kn pr ar X) (fun (u : Nat → Int64) => mW g md J n v kn pr ar u) (fun r (u : Nat → Int64) => ∃ z, r = mt_b z ∧ (z = false → mt_ms X 2 sx = true ∧ u = X) ∧ (z = true → mt_ms X 2 sx = false ∧ (∀ c i, i < 8192 → c ≠ 2 → mt_ms u c i = mt_ms X c i) ∧ ∀ x, x < 8192 → (mt_ms u 2 x = true ↔ (mt_ms X 2 x = true ∨ ∃ f, f < 8192 ∧ mt_ms X 2 f = true ∧ x = f ||| sx)))) := by
  refine gx_body (by decide) (Nat.le_of_ble_eq_true rfl) ?_
  intro p e s m below meth c ls hAt hB hl
  obtain ⟨hx, hb, hml, hown, hts, hr, hlk, hnm⟩ := hAt
  have hown : s.vm.findClass R_MM = some m.cls := hown
  obtain ⟨⟨hP, hG⟩, hD0⟩ := hB
  have hD := gx_D.self hD0
  have hS : va_S (gx_in (mW g md J n v kn pr ar X)) s.heap s.heap [] := va_S.rf
  have hl : lv_has ls 3 [(0, .ref (md 0)), (1, .int (nI sx))] := hl
  have har2 := mt_p13 har13
  refine lv_aload_n hx hb d_MM_addStep_0 rfl (lv_at hl 0 rfl) ?_
  refine lv_sipush (v := nI 256) hx hb d_MM_addStep_1 (by decide) ?_
  refine lv_iload_n hx hb d_MM_addStep_4 rfl (lv_at hl 1 rfl) ?_
  refine vp_callSi (va_runV (own := R_MM) (As := [.int (nI 256), .int (nI sx)]) (rest := []) ⟨hx, hb, hml, hown, hts⟩ (c_MM_has (l := l) (g := g) (md := md) (J := J) (n := n) (v := v) (kn := kn) (pr := pr) (ar := ar) (X := X) (s0 := 256) (cc := 2) (i := sx) (by omega) (by omega) (by omega)) (cwV 2 hts (gx_goodV wd_500 wd_502 ws_20 wd_7 wd_503) rfl rfl rfl (by decide +kernel) ⟨Nat.le_of_ble_eq_true rfl, Nat.le_of_ble_eq_true rfl⟩) (gc_preV (gc_recv hP hG (ci := 5) rfl (q0 := 0) rfl) hP hG) rfl rfl hl.1 rfl (lv_room (Nat.le_of_ble_eq_true rfl)) d_MM_addStep_5 ⟨Nat.le_refl _, Nat.le_refl _⟩).run (fun r hr5 => ?_)
  subst hr5
  refine lv_if_eq (tgt := 13) hx hb d_MM_addStep_8 (by decide) (mt_z fun hc8 => ?_) (mt_nz fun hc8 => ?_)
  · ---- 8T
    refine lv_iconst (v := nI 1) hx hb d_MM_addStep_13 (by decide) ?_
    refine lv_aload_n hx hb d_MM_addStep_14 rfl (lv_at hl 0 rfl) ?_
    refine va_get (D := g.1) (own := R_MM) (ref := R_MM) (ci := 5) (v := .int (nI ar)) (C := R_MM) (T := F_MM) (N := 16) hx hb hts in_MM hown hG.1 hP 0 rfl rfl 14 (by decide) (hts _ wd_397) (fun _ h9 => h9) rfl d_MM_addStep_15 ?_
    refine lv_ishl hx hb d_MM_addStep_18 ?_
    refine mt_ri (y := nI (2 ^ ar)) (mt_shl (by omega)) ?_
    refine lv_iconst (v := nI 1) hx hb d_MM_addStep_19 (by decide) ?_
    refine lv_isub hx hb d_MM_addStep_20 ?_
    refine mt_ri (y := nI (2 ^ ar - 1)) (pk_sub (by omega)) ?_
    refine mt_ri (y := mt_dn (2 ^ ar)) (mt_dn_of (by omega)).symm ?_
    refine lv_istore_n (lv' := [(2, .int (mt_dn (2 ^ ar))), (0, .ref (md 0)), (1, .int (nI sx))]) hx hb d_MM_addStep_21 rfl hl (by decide) rfl (fun ls hl => ?_)
    have lp22 : ∀ (d : Nat) (q : Nat) (X1 : Nat → Int64) (ls : Array Slot) (H : Heap) (locs : List Loc), d = q → (q ≤ 2 ^ ar) → (∀ c i, i < 8192 → c ≠ 2 → mt_ms X1 c i = mt_ms X c i) → (∀ x, x < 8192 → (mt_ms X1 2 x = true ↔ (mt_ms X 2 x = true ∨ ∃ f, q ≤ f ∧ f < 8192 ∧ mt_ms X 2 f = true ∧ x = f ||| sx))) → lv_has ls 3 [(2, .int (mt_dn q)), (0, .ref (md 0)), (1, .int (nI sx))] → va_P g.1 gx_cl (mW g md J n v kn pr ar X1) H → va_D (gx_in (mW g md J n v kn pr ar X)) (mW g md J n v kn pr ar X1) → va_S (gx_in (mW g md J n v kn pr ar X)) s.heap H locs → W p l e (gx_rm 2 45) s m ([.ref (md 0), .int (nI sx)] : List Value).toArray below meth c H locs 0 0 (MQ below (va_Qi (fun r (u : Nat → Int64) => ∃ z, r = mt_b z ∧ (z = false → mt_ms X 2 sx = true ∧ u = X) ∧ (z = true → mt_ms X 2 sx = false ∧ (∀ c i, i < 8192 → c ≠ 2 → mt_ms u c i = mt_ms X c i) ∧ ∀ x, x < 8192 → (mt_ms u 2 x = true ↔ (mt_ms X 2 x = true ∨ ∃ f, f < 8192 ∧ mt_ms X 2 f = true ∧ x = f ||| sx)))) (fun u9 t9 => va_P g.1 gx_cl ((fun (u : Nat → Int64) => mW g md J n v kn pr ar u) u9) t9.heap ∧ va_D (gx_in (mW g md J n v kn pr ar X)) ((fun (u : Nat → Int64) => mW g md J n v kn pr ar u) u9)) (gx_in (mW g md J n v kn pr ar X))) ([.ref (md 0), .int (nI sx)] : List Value).toArray s 0 0 (gx_in (mW g md J n v kn pr ar X))) (F0 m 22 ls []) := by
      intro d
      induction d using Nat.strongRecOn with
      | ind d ih22 =>
      intro q X1 ls H locs hd hq hS1 hB hl hP hD hS
      refine lv_iload_n hx hb d_MM_addStep_22 rfl (lv_at hl 0 rfl) ?_
      refine lv_if_lt (tgt := 54) hx hb d_MM_addStep_23 (by decide) (fun hc23 => ?_) (fun hc23 => ?_)
      · ---- 23T
        refine lv_iconst (v := nI 1) hx hb d_MM_addStep_54 (by decide) ?_
        exact gc_retwz (u := (X1)) (v := true) (Wf := fun (u : Nat → Int64) => mW g md J n v kn pr ar u) (post := fun r (u : Nat → Int64) => ∃ z, r = mt_b z ∧ (z = false → mt_ms X 2 sx = true ∧ u = X) ∧ (z = true → mt_ms X 2 sx = false ∧ (∀ c i, i < 8192 → c ≠ 2 → mt_ms u c i = mt_ms X c i) ∧ ∀ x, x < 8192 → (mt_ms u 2 x = true ↔ (mt_ms X 2 x = true ∨ ∃ f, f < 8192 ∧ mt_ms X 2 f = true ∧ x = f ||| sx)))) hx hb hr hlk (⟨true, rfl, (fun h => by cases h), (fun _ => ⟨hc8, hS1, fun x hx8 => by rw [hB x hx8, mt_dn_0 hc23 (by omega)]; simp⟩)⟩) hP hD hS d_MM_addStep_55
      · ---- 23F
        have hq1 : 1 ≤ q := mt_dn_1 hc23
        refine lv_aload_n hx hb d_MM_addStep_26 rfl (lv_at hl 1 rfl) ?_
        refine lv_sipush (v := nI 256) hx hb d_MM_addStep_27 (by decide) ?_
        refine lv_iload_n hx hb d_MM_addStep_30 rfl (lv_at hl 0 rfl) ?_
        refine mt_ri (y := nI (q - 1)) (mt_dn_of hq1) ?_
        refine vp_callSi (va_runV (own := R_MM) (As := [.int (nI 256), .int (nI (q - 1))]) (rest := []) ⟨hx, hb, hml, hown, hts⟩ (c_MM_has (l := l) (g := g) (md := md) (J := J) (n := n) (v := v) (kn := kn) (pr := pr) (ar := ar) (X := X1) (s0 := 256) (cc := 2) (i := q - 1) (by omega) (by omega) (by omega)) (cwV 2 hts (gx_goodV wd_500 wd_502 ws_20 wd_7 wd_503) rfl rfl rfl (by decide +kernel) ⟨Nat.le_of_ble_eq_true rfl, Nat.le_of_ble_eq_true rfl⟩) (gc_preV (gc_recv hP hG (ci := 5) rfl (q0 := 0) rfl) hP hG) rfl rfl hl.1 rfl (lv_room (Nat.le_of_ble_eq_true rfl)) d_MM_addStep_31 ⟨Nat.le_refl _, Nat.le_refl _⟩).run (fun r hr31 => ?_)
        subst hr31
        refine lv_if_eq (tgt := 48) hx hb d_MM_addStep_34 (by decide) (mt_z fun hc34 => ?_) (mt_nz fun hc34 => ?_)
        · ---- 23F 34T
          refine lv_iinc (k := 0) (v := mt_dn (q - 1)) (lv' := [(2, .int (mt_dn (q - 1))), (0, .ref (md 0)), (1, .int (nI sx))]) hx hb d_MM_addStep_48 hl rfl (mt_dn_s hq1) (by decide) rfl (fun ls hl => ?_)
          refine lv_goto (tgt := 22) hx hb d_MM_addStep_51 (by decide) ?_
          exact ih22 _ (by omega) (q - 1) X1 ls _ _ rfl (by omega) (hS1) (mt_st_f hq1 (by omega) hB hc34) (lv_sub hl [0, 1, 2] rfl) hP hD hS
        · ---- 23F 34F
          refine lv_aload_n hx hb d_MM_addStep_37 rfl (lv_at hl 1 rfl) ?_
          refine lv_sipush (v := nI 256) hx hb d_MM_addStep_38 (by decide) ?_
          refine lv_iload_n hx hb d_MM_addStep_41 rfl (lv_at hl 0 rfl) ?_
          refine mt_ri (y := nI (q - 1)) (mt_dn_of hq1) ?_
          refine lv_iload_n hx hb d_MM_addStep_42 rfl (lv_at hl 2 rfl) ?_
          refine lv_ior hx hb d_MM_addStep_43 ?_
          refine mt_ri (y := nI ((q - 1) ||| sx)) (mt_or _ _) ?_
          refine gc_cwi (va_runV (own := R_MM) (As := [.int (nI 256), .int (nI ((q - 1) ||| sx))]) (rest := []) ⟨hx, hb, hml, hown, hts⟩ (c_MM_put (l := l) (g := g) (md := md) (J := J) (n := n) (v := v) (kn := kn) (pr := pr) (ar := ar) (X := X1) (s0 := 256) (cc := 2) (i := (q - 1) ||| sx) (by omega) (by omega) (by exact Nat.lt_of_lt_of_le (Nat.or_lt_two_pow (n := ar) (by omega) hsx) har2.2)) (cwV 2 hts (gx_goodV wd_496 wd_498 ws_19 wd_7 wd_499) rfl rfl rfl (by decide +kernel) ⟨Nat.le_of_ble_eq_true rfl, Nat.le_of_ble_eq_true rfl⟩) (gc_preVW (gc_recv hP hG (ci := 5) rfl (q0 := 0) rfl) hP hG hD) rfl rfl hl.1 rfl (lv_room (Nat.le_of_ble_eq_true rfl)) d_MM_addStep_44 ⟨Nat.le_refl _, Nat.le_refl _⟩) hD hS (fun r44 X44 H locs hr44 hP hD hS => ?_)
          obtain ⟨hr44, hx44⟩ := hr44
          subst hr44
          have hP : va_P g.1 gx_cl (mW g md J n v kn pr ar X44) H := hP
          have hD : va_D (gx_in (mW g md J n v kn pr ar X)) (mW g md J n v kn pr ar X44) := hD
          refine lv_pop hx hb d_MM_addStep_47 rfl ?_
          refine lv_iinc (k := 0) (v := mt_dn (q - 1)) (lv' := [(2, .int (mt_dn (q - 1))), (0, .ref (md 0)), (1, .int (nI sx))]) hx hb d_MM_addStep_48 hl rfl (mt_dn_s hq1) (by decide) rfl (fun ls hl => ?_)
          refine lv_goto (tgt := 22) hx hb d_MM_addStep_51 (by decide) ?_
          exact ih22 _ (by omega) (q - 1) X44 ls _ _ rfl (by omega) (fun c i hi hc => (mt_pt_ne hx44 hi hc).trans (hS1 c i hi hc)) (mt_st_t hq1 (by omega) hB hx44 hc34) (lv_sub hl [0, 1, 2] rfl) hP hD hS
    exact lp22 _ (2 ^ ar) X ls _ _ rfl (Nat.le_refl _) (fun _ _ _ _ => rfl) (mt_st_0 hcs.2.1) (lv_sub hl [0, 1, 2] rfl) hP hD hS
  · ---- 8F
    refine lv_iconst (v := nI 0) hx hb d_MM_addStep_11 (by decide) ?_
    exact gc_retwz (u := (X)) (v := false) (Wf := fun (u : Nat → Int64) => mW g md J n v kn pr ar u) (post := fun r (u : Nat → Int64) => ∃ z, r = mt_b z ∧ (z = false → mt_ms X 2 sx = true ∧ u = X) ∧ (z = true → mt_ms X 2 sx = false ∧ (∀ c i, i < 8192 → c ≠ 2 → mt_ms u c i = mt_ms X c i) ∧ ∀ x, x < 8192 → (mt_ms u 2 x = true ↔ (mt_ms X 2 x = true ∨ ∃ f, f < 8192 ∧ mt_ms X 2 f = true ∧ x = f ||| sx)))) hx hb hr hlk (⟨false, rfl, (fun _ => ⟨hc8, rfl⟩), (fun h => by cases h)⟩) hP hD hS d_MM_addStep_12
