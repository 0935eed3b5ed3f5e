set_option maxHeartbeats 4000000 in
set_option maxRecDepth 100000 in
theorem c_MM_prepare {g : gG} {md : Nat → Nat} {J : Nat → Nat → Int32} {n v kn pr ar : Nat} {X : Nat → Int64} {k a b : Nat → Nat} {dp : Nat → Nat} {fc : Nat → Bool} {vk va vb vl : Nat → Nat} {vi : Nat} {l : Launch} (hM : mt_MR (J, n, v, kn, pr, ar, X) (n, k, a, b, dp, fc) (v, vk, va, vb, vl)) (hvi : vi < v) :
    gc_RV (S := gMS) l y_MM_prepare (gx_ws y_MM_prepare b_MM_prepare 3 none) 5 112 g [.ref (md 0), .int (nI vi)] (mW g md J n v kn pr ar X) (fun (u : gMS) => mW g md u.1 u.2.1 u.2.2.1 u.2.2.2.1 u.2.2.2.2.1 u.2.2.2.2.2.1 u.2.2.2.2.2.2) (fun (u : gMS) => mt_MR u (n, k, a, b, dp, fc) (v, vk, va, vb, vl) ∧ ∀ z, z < 8192 → (mt_ms u.2.2.2.2.2.2 (7 + vi) z = true ↔ mt_V k a b vk va vb n 4 vi z)) := by
  refine gx_body (by decide) (Nat.le_of_ble_eq_true rfl) ?_
  intro p e s m below meth c ls hAt hB hl
  obtain ⟨hx, hb, hml, hown, hts, hr, hlk, hnm⟩ := hAt
  have hown : s.vm.findClass R_MM = some m.cls := hown
  obtain ⟨⟨hP, hG⟩, hD0⟩ := hB
  have hD := gx_D.self hD0
  have hS : va_S (gx_in (mW g md J n v kn pr ar X)) s.heap s.heap [] := va_S.rf
  have hl : lv_has ls 3 [(0, .ref (md 0)), (1, .int (nI vi))] := hl
  have hM0 := hM
  obtain ⟨-, -, hn12, hT, hE, hw, hdp, hv20, hV, hvw, hkn, hK⟩ := hM0
  refine lv_aload_n hx hb d_MM_prepare_0 rfl (lv_at hl 0 rfl) ?_
  refine lv_aload_n hx hb d_MM_prepare_1 rfl (lv_at hl 0 rfl) ?_
  refine va_get (D := g.1) (own := R_MM) (ref := R_MM) (ci := 5) (v := .int (nI n)) (C := R_MM) (T := F_MM) (N := 16) hx hb hts in_MM hown hG.1 hP 0 rfl rfl 0 (by decide) (hts _ wd_383) (fun _ h9 => h9) rfl d_MM_prepare_2 ?_
  refine gc_cwv (va_runV (own := R_MM) (As := [.int (nI n)]) (rest := []) ⟨hx, hb, hml, hown, hts⟩ (c_MM_work (l := l) (g := g) (md := md) (J := J) (n := n) (v := v) (kn := kn) (pr := pr) (ar := ar) (X := X) (k := k) (a := a) (b := b) (nn := n) hT (by omega) hw (by omega) hK) (cwV 1 hts (gx_goodV wd_484 wd_486 ws_16 wd_7 wd_487) rfl rfl rfl (by decide +kernel) ⟨Nat.le_of_ble_eq_true rfl, Nat.le_of_ble_eq_true rfl⟩) (gc_preVW (gc_recv hP hG (ci := 5) rfl (q0 := 0) rfl) hP hG hD) rfl rfl hl.1 rfl (lv_room (Nat.le_of_ble_eq_true rfl)) d_MM_prepare_5 ⟨Nat.le_refl _, Nat.le_refl _⟩) hD hS (fun u5 H locs hu5 hP hD hS => ?_)
  obtain ⟨P5, kn5, pr5, ar5, X5⟩ := u5
  obtain ⟨hkn5, hK5⟩ := hu5
  dsimp only at hkn5 hK5 hP hD
  rw [hkn5] at hP hD
  have hP : va_P g.1 gx_cl (mW g md (va_up J 9 P5) n v n pr5 ar5 X5) H := hP
  have hD : va_D (gx_in (mW g md J n v kn pr ar X)) (mW g md (va_up J 9 P5) n v n pr5 ar5 X5) := hD
  refine lv_iconst (v := nI 0) hx hb d_MM_prepare_8 (by decide) ?_
  refine lv_istore_n (lv' := [(2, .int (nI 0)), (0, .ref (md 0)), (1, .int (nI vi))]) hx hb d_MM_prepare_9 rfl hl (by decide) rfl (fun ls hl => ?_)
  have lp10 : ∀ (d : Nat) (q : Nat) (X1 : Nat → Int64) (ls : Array Slot) (H : Heap) (locs : List Loc), d = vi + 1 - q → (q ≤ vi + 1) → (mt_KN P5 pr5 ar5 X1 k a b n) → (∀ c, c < q → ∀ z, z < 8192 → (mt_ms X1 (7 + c) z = true ↔ mt_V k a b vk va vb n 4 c z)) → lv_has ls 3 [(2, .int (nI q)), (0, .ref (md 0)), (1, .int (nI vi))] → va_P g.1 gx_cl (mW g md (va_up J 9 P5) n v n pr5 ar5 X1) H → va_D (gx_in (mW g md J n v kn pr ar X)) (mW g md (va_up J 9 P5) n v n pr5 ar5 X1) → va_S (gx_in (mW g md J n v kn pr ar X)) s.heap H locs → W p l e (gx_rm 5 112) s m ([.ref (md 0), .int (nI vi)] : List Value).toArray below meth c H locs 0 0 (MQ below (va_Qv (fun (u : gMS) => mt_MR u (n, k, a, b, dp, fc) (v, vk, va, vb, vl) ∧ ∀ z, z < 8192 → (mt_ms u.2.2.2.2.2.2 (7 + vi) z = true ↔ mt_V k a b vk va vb n 4 vi z)) (fun u9 t9 => va_P g.1 gx_cl ((fun (u : gMS) => mW g md u.1 u.2.1 u.2.2.1 u.2.2.2.1 u.2.2.2.2.1 u.2.2.2.2.2.1 u.2.2.2.2.2.2) u9) t9.heap ∧ va_D (gx_in (mW g md J n v kn pr ar X)) ((fun (u : gMS) => mW g md u.1 u.2.1 u.2.2.1 u.2.2.2.1 u.2.2.2.2.1 u.2.2.2.2.2.1 u.2.2.2.2.2.2) u9)) (gx_in (mW g md J n v kn pr ar X))) ([.ref (md 0), .int (nI vi)] : List Value).toArray s 0 0 (gx_in (mW g md J n v kn pr ar X))) (F0 m 10 ls []) := by
    intro d
    induction d using Nat.strongRecOn with
    | ind d ih10 =>
    intro q X1 ls H locs hd hq hKq hva hl hP hD hS
    refine lv_iload_n hx hb d_MM_prepare_10 rfl (lv_at hl 0 rfl) ?_
    refine lv_iload_n hx hb d_MM_prepare_11 rfl (lv_at hl 2 rfl) ?_
    refine lv_icmp_gt (tgt := 26) hx hb d_MM_prepare_12 (by decide) (mt_lt (by omega) (by omega) fun hc12 => ?_) (mt_nlt (by omega) (by omega) fun hc12 => ?_)
    · ---- 12T
      exact gc_retv (u := (va_up J 9 P5, n, v, n, pr5, ar5, X1)) (Wf := fun (u : gMS) => mW g md u.1 u.2.1 u.2.2.1 u.2.2.2.1 u.2.2.2.2.1 u.2.2.2.2.2.1 u.2.2.2.2.2.2) (post := fun (u : gMS) => mt_MR u (n, k, a, b, dp, fc) (v, vk, va, vb, vl) ∧ ∀ z, z < 8192 → (mt_ms u.2.2.2.2.2.2 (7 + vi) z = true ↔ mt_V k a b vk va vb n 4 vi z)) hx hb hr hlk (⟨mt_MR_wk hM hKq, hva vi (by omega)⟩) hP hD hS d_MM_prepare_26
    · ---- 12F
      refine lv_aload_n hx hb d_MM_prepare_15 rfl (lv_at hl 1 rfl) ?_
      refine lv_iload_n hx hb d_MM_prepare_16 rfl (lv_at hl 0 rfl) ?_
      refine gc_cwv (va_runV (own := R_MM) (As := [.int (nI q)]) (rest := []) ⟨hx, hb, hml, hown, hts⟩ (c_MM_sortRows (l := l) (g := g) (md := md) (J := va_up J 9 P5) (n := n) (v := v) (kn := n) (pr := pr5) (ar := ar5) (X := X1) (k := k) (a := a) (b := b) (vk := vk) (va := va) (vb := vb) (vl := vl) (vi := q) (mt_MT_9 hT) hn12 hw (mt_NU_9 hK5) hKq.2 hv20 (mt_MV_9 hV) hvw (by omega) hva) (cwV 1 hts (gx_goodV wd_580 wd_582 ws_33 wd_7 wd_583) rfl rfl rfl (by decide +kernel) ⟨Nat.le_of_ble_eq_true rfl, Nat.le_of_ble_eq_true rfl⟩) (gc_preVW (gc_recv hP hG (ci := 5) rfl (q0 := 0) rfl) hP hG hD) rfl rfl hl.1 rfl (lv_room (Nat.le_of_ble_eq_true rfl)) d_MM_prepare_17 ⟨Nat.le_refl _, Nat.le_refl _⟩) hD hS (fun X17 H locs hfl17 hP hD hS => ?_)
      have hP : va_P g.1 gx_cl (mW g md (va_up J 9 P5) n v n pr5 ar5 X17) H := hP
      have hD : va_D (gx_in (mW g md J n v kn pr ar X)) (mW g md (va_up J 9 P5) n v n pr5 ar5 X17) := hD
      refine lv_iinc (k := 0) (v := nI (q + 1)) (lv' := [(2, .int (nI (q + 1))), (0, .ref (md 0)), (1, .int (nI vi))]) hx hb d_MM_prepare_20 hl rfl (by rw [lit1]; exact nI_1 _) (by decide) rfl (fun ls hl => ?_)
      refine lv_goto (tgt := 10) hx hb d_MM_prepare_23 (by decide) ?_
      exact ih10 _ (by omega) (q + 1) X17 ls _ _ rfl (by omega) (mt_KN_fl hKq hfl17) (mt_va_s hva hfl17) (lv_sub hl [0, 1, 2] rfl) hP hD hS
  exact lp10 _ 0 X5 ls _ _ rfl (Nat.zero_le _) (hK5) (fun c h9 => absurd h9 (by omega)) (lv_sub hl [0, 1, 2] rfl) hP hD hS

set_option maxHeartbeats 4000000 in
set_option maxRecDepth 100000 in
theorem c_MM_isIn {g : gG} {md : Nat → Nat} {J : Nat → Nat → Int32} {n v kn pr ar : Nat} {X : Nat → Int64} {vi j : Nat} {l : Launch} (hvi : vi < 20) (hj9 : j ≤ 12) :
    gc_RO l y_MM_isIn (gx_ws y_MM_isIn b_MM_isIn 5 (some .boolean)) 1 22 g [.ref (md 0), .int (nI vi), .int (nI j)] (mW g md J n v kn pr ar X) (fun r => ∃ z, r = mt_b z ∧ (z = true ↔ ∀ x, x < 4096 → (!mt_ms X (7 + vi) x || x.testBit j) = true)) := by
  refine gx_body (by decide) (Nat.le_of_ble_eq_true rfl) ?_
  intro p e s m below meth c ls hAt hB hl
  obtain ⟨hx, hb, hml, hown, hts, hr, hlk, hnm⟩ := hAt
  have hown : s.vm.findClass R_MM = some m.cls := hown
  obtain ⟨hP, hG⟩ := hB
  have hl : lv_has ls 5 [(0, .ref (md 0)), (1, .int (nI vi)), (2, .int (nI j))] := hl
  refine lv_iconst (v := nI 1) hx hb d_MM_isIn_0 (by decide) ?_
  refine lv_istore_n (lv' := [(3, .int (nI 1)), (0, .ref (md 0)), (1, .int (nI vi)), (2, .int (nI j))]) hx hb d_MM_isIn_1 rfl hl (by decide) rfl (fun ls hl => ?_)
  refine lv_iconst (v := nI 0) hx hb d_MM_isIn_2 (by decide) ?_
  refine lv_istore (lv' := [(4, .int (nI 0)), (3, .int (nI 1)), (0, .ref (md 0)), (1, .int (nI vi)), (2, .int (nI j))]) hx hb d_MM_isIn_3 hl (by decide) rfl (fun ls hl => ?_)
  have lp5 : ∀ (d : Nat) (al : Bool) (q : Nat) (ls : Array Slot), d = 4096 - q → (q ≤ 4096) → (al = true ↔ ∀ x, x < q → (!mt_ms X (7 + vi) x || x.testBit j) = true) → lv_has ls 5 [(4, .int (nI q)), (3, .int (mt_b al)), (0, .ref (md 0)), (1, .int (nI vi)), (2, .int (nI j))] → W p l e (gx_rm 1 22) s m ([.ref (md 0), .int (nI vi), .int (nI j)] : List Value).toArray below meth c s.heap [] 0 0 (MQ below (vp_Si (fun r => ∃ z, r = mt_b z ∧ (z = true ↔ ∀ x, x < 4096 → (!mt_ms X (7 + vi) x || x.testBit j) = true))) ([.ref (md 0), .int (nI vi), .int (nI j)] : List Value).toArray s 0 0 (fun _ => False)) (F0 m 5 ls []) := by
    intro d
    induction d using Nat.strongRecOn with
    | ind d ih5 =>
    intro al q ls hd hq hal hl
    refine lv_iload hx hb d_MM_isIn_5 (lv_at hl 0 rfl) ?_
    refine lv_sipush (v := nI 4096) hx hb d_MM_isIn_7 (by decide) ?_
    refine lv_icmp_ge (tgt := 57) hx hb d_MM_isIn_10 (by decide) (mt_le (by omega) (by omega) fun hc10 => ?_) (mt_nle (by omega) (by omega) fun hc10 => ?_)
    · ---- 10T
      refine lv_iload_n hx hb d_MM_isIn_57 rfl (lv_at hl 1 rfl) ?_
      exact gc_retz (v := al) (post := fun r => ∃ z, r = mt_b z ∧ (z = true ↔ ∀ x, x < 4096 → (!mt_ms X (7 + vi) x || x.testBit j) = true)) hx hb hr hlk (⟨al, rfl, by rw [hal, show q = 4096 by omega]⟩) d_MM_isIn_58
    · ---- 10F
      refine lv_iload_n hx hb d_MM_isIn_13 rfl (lv_at hl 1 rfl) ?_
      refine lv_if_eq (tgt := 49) hx hb d_MM_isIn_14 (by decide) (mt_z fun hc14 => ?_) (mt_nz fun hc14 => ?_)
      · ---- 10F 14T
        refine lv_iconst (v := nI 0) hx hb d_MM_isIn_49 (by decide) ?_
        refine mt_ri (y := mt_b false) rfl ?_
        refine lv_istore_n (lv' := [(3, .int (mt_b false)), (4, .int (nI q)), (0, .ref (md 0)), (1, .int (nI vi)), (2, .int (nI j))]) hx hb d_MM_isIn_50 rfl hl (by decide) rfl (fun ls hl => ?_)
        refine lv_iinc (k := 1) (v := nI (q + 1)) (lv' := [(4, .int (nI (q + 1))), (3, .int (mt_b false)), (0, .ref (md 0)), (1, .int (nI vi)), (2, .int (nI j))]) hx hb d_MM_isIn_51 hl rfl (by rw [lit1]; exact nI_1 _) (by decide) rfl (fun ls hl => ?_)
        refine lv_goto (tgt := 5) hx hb d_MM_isIn_54 (by decide) ?_
        exact ih5 _ (by omega) false (q + 1) ls rfl (by omega) (mt_all_s (f := fun x => (!mt_ms X (7 + vi) x || x.testBit j)) hal (by rw [hc14]; rfl)) (lv_sub hl [0, 1, 2, 3, 4] rfl)
      · ---- 10F 14F
        refine lv_aload_n hx hb d_MM_isIn_17 rfl (lv_at hl 2 rfl) ?_
        refine lv_sipush (v := nI 896) hx hb d_MM_isIn_18 (by decide) ?_
        refine lv_sipush (v := nI 128) hx hb d_MM_isIn_21 (by decide) ?_
        refine lv_iload_n hx hb d_MM_isIn_24 rfl (lv_at hl 3 rfl) ?_
        refine lv_imul hx hb d_MM_isIn_25 ?_
        refine mt_ri (y := nI (128 * vi)) (pk_mul _ _) ?_
        refine lv_iadd hx hb d_MM_isIn_26 ?_
        refine mt_ri (y := nI (896 + (128 * vi))) (nI_add _ _) ?_
        refine lv_iload hx hb d_MM_isIn_27 (lv_at hl 0 rfl) ?_
        refine vp_callSi (va_runV (own := R_MM) (As := [.int (nI (896 + (128 * vi))), .int (nI q)]) (rest := []) ⟨hx, hb, hml, hown, hts⟩ (c_MM_has (l := l) (g := g) (md := md) (J := J) (n := n) (v := v) (kn := kn) (pr := pr) (ar := ar) (X := X) (s0 := 896 + (128 * vi)) (cc := 7 + vi) (i := q) (by omega) (by omega) (by omega)) (cwV 2 hts (gx_goodV wd_500 wd_502 ws_20 wd_7 wd_503) rfl rfl rfl (by decide +kernel) ⟨Nat.le_of_ble_eq_true rfl, Nat.le_of_ble_eq_true rfl⟩) (gc_preV (gc_recv hP hG (ci := 5) rfl (q0 := 0) rfl) hP hG) rfl rfl hl.1 rfl (lv_room (Nat.le_of_ble_eq_true rfl)) d_MM_isIn_29 ⟨Nat.le_refl _, Nat.le_refl _⟩).run (fun r hr29 => ?_)
        subst hr29
        refine lv_if_eq (tgt := 45) hx hb d_MM_isIn_32 (by decide) (mt_z fun hc32 => ?_) (mt_nz fun hc32 => ?_)
        · ---- 10F 14F 32T
          refine lv_iconst (v := nI 1) hx hb d_MM_isIn_45 (by decide) ?_
          refine lv_goto (tgt := 50) hx hb d_MM_isIn_46 (by decide) ?_
          refine mt_ri (y := mt_b true) rfl ?_
          refine lv_istore_n (lv' := [(3, .int (mt_b true)), (4, .int (nI q)), (0, .ref (md 0)), (1, .int (nI vi)), (2, .int (nI j))]) hx hb d_MM_isIn_50 rfl hl (by decide) rfl (fun ls hl => ?_)
          refine lv_iinc (k := 1) (v := nI (q + 1)) (lv' := [(4, .int (nI (q + 1))), (3, .int (mt_b true)), (0, .ref (md 0)), (1, .int (nI vi)), (2, .int (nI j))]) hx hb d_MM_isIn_51 hl rfl (by rw [lit1]; exact nI_1 _) (by decide) rfl (fun ls hl => ?_)
          refine lv_goto (tgt := 5) hx hb d_MM_isIn_54 (by decide) ?_
          exact ih5 _ (by omega) true (q + 1) ls rfl (by omega) (mt_all_s (f := fun x => (!mt_ms X (7 + vi) x || x.testBit j)) hal (by rw [hc14, hc32]; rfl)) (lv_sub hl [0, 1, 2, 3, 4] rfl)
        · ---- 10F 14F 32F
          refine lv_iload hx hb d_MM_isIn_35 (lv_at hl 0 rfl) ?_
          refine lv_iload_n hx hb d_MM_isIn_37 rfl (lv_at hl 4 rfl) ?_
          refine lv_ishr hx hb d_MM_isIn_38 ?_
          refine lv_iconst (v := nI 1) hx hb d_MM_isIn_39 (by decide) ?_
          refine lv_iand hx hb d_MM_isIn_40 ?_
          refine mt_ri (y := mt_b (Nat.testBit q j)) (mt_bit1 (by omega) (by omega)) ?_
          refine lv_iconst (v := nI 1) hx hb d_MM_isIn_41 (by decide) ?_
          refine lv_icmp_ne (tgt := 49) hx hb d_MM_isIn_42 (by decide) (mt_nb1 fun hc42 => ?_) (mt_b1 fun hc42 => ?_)
          · ---- 10F 14F 32F 42T
            refine lv_iconst (v := nI 0) hx hb d_MM_isIn_49 (by decide) ?_
            refine mt_ri (y := mt_b false) rfl ?_
            refine lv_istore_n (lv' := [(3, .int (mt_b false)), (4, .int (nI q)), (0, .ref (md 0)), (1, .int (nI vi)), (2, .int (nI j))]) hx hb d_MM_isIn_50 rfl hl (by decide) rfl (fun ls hl => ?_)
            refine lv_iinc (k := 1) (v := nI (q + 1)) (lv' := [(4, .int (nI (q + 1))), (3, .int (mt_b false)), (0, .ref (md 0)), (1, .int (nI vi)), (2, .int (nI j))]) hx hb d_MM_isIn_51 hl rfl (by rw [lit1]; exact nI_1 _) (by decide) rfl (fun ls hl => ?_)
            refine lv_goto (tgt := 5) hx hb d_MM_isIn_54 (by decide) ?_
            exact ih5 _ (by omega) false (q + 1) ls rfl (by omega) (mt_all_s (f := fun x => (!mt_ms X (7 + vi) x || x.testBit j)) hal (by rw [hc14, hc32, hc42]; rfl)) (lv_sub hl [0, 1, 2, 3, 4] rfl)
          · ---- 10F 14F 32F 42F
            refine lv_iconst (v := nI 1) hx hb d_MM_isIn_45 (by decide) ?_
            refine lv_goto (tgt := 50) hx hb d_MM_isIn_46 (by decide) ?_
            refine mt_ri (y := mt_b true) rfl ?_
            refine lv_istore_n (lv' := [(3, .int (mt_b true)), (4, .int (nI q)), (0, .ref (md 0)), (1, .int (nI vi)), (2, .int (nI j))]) hx hb d_MM_isIn_50 rfl hl (by decide) rfl (fun ls hl => ?_)
            refine lv_iinc (k := 1) (v := nI (q + 1)) (lv' := [(4, .int (nI (q + 1))), (3, .int (mt_b true)), (0, .ref (md 0)), (1, .int (nI vi)), (2, .int (nI j))]) hx hb d_MM_isIn_51 hl rfl (by rw [lit1]; exact nI_1 _) (by decide) rfl (fun ls hl => ?_)
            refine lv_goto (tgt := 5) hx hb d_MM_isIn_54 (by decide) ?_
            exact ih5 _ (by omega) true (q + 1) ls rfl (by omega) (mt_all_s (f := fun x => (!mt_ms X (7 + vi) x || x.testBit j)) hal (by rw [hc14, hc32, hc42]; rfl)) (lv_sub hl [0, 1, 2, 3, 4] rfl)
  exact lp5 _ true 0 ls rfl (Nat.zero_le _) (⟨fun _ x h9 => absurd h9 (by omega), fun _ => rfl⟩) (lv_sub hl [0, 1, 2, 3, 4] rfl)

set_option maxHeartbeats 4000000 in
set_option maxRecDepth 100000 in
theorem c_MM_belongs {g : gG} {md : Nat → Nat} {J : Nat → Nat → Int32} {n v kn pr ar : Nat} {X : Nat → Int64} {k a b : Nat → Nat} {dp : Nat → Nat} {fc : Nat → Bool} {vk va vb vl : Nat → Nat} {x y : Int32} {l : Launch} (hM : mt_MR (J, n, v, kn, pr, ar, X) (n, k, a, b, dp, fc) (v, vk, va, vb, vl))  :
    gc_RW (S := gMS) l y_MM_belongs (gx_ws y_MM_belongs b_MM_belongs 3 (some .boolean)) 6 134 g [.ref (md 0), .int x, .int y] (mW g md J n v kn pr ar X) (fun (u : gMS) => mW g md u.1 u.2.1 u.2.2.1 u.2.2.2.1 u.2.2.2.2.1 u.2.2.2.2.2.1 u.2.2.2.2.2.2) (fun r (u : gMS) => sp_blg (n, k, a, b, dp, fc) (v, vk, va, vb, vl) x y r ∧ mt_MR u (n, k, a, b, dp, fc) (v, vk, va, vb, vl)) := by
  refine gx_body (by decide) (Nat.le_of_ble_eq_true rfl) ?_
  intro p e s m below meth c ls hAt hB hl
  obtain ⟨hx, hb, hml, hown, hts, hr, hlk, hnm⟩ := hAt
  have hown : s.vm.findClass R_MM = some m.cls := hown
  obtain ⟨⟨hP, hG⟩, hD0⟩ := hB
  have hD := gx_D.self hD0
  have hS : va_S (gx_in (mW g md J n v kn pr ar X)) s.heap s.heap [] := va_S.rf
  have hl : lv_has ls 3 [(0, .ref (md 0)), (1, .int x), (2, .int y)] := hl
  have hM0 := hM
  obtain ⟨-, -, hn12, hT, hE, hw, hdp, hv20, hV, hvw, hkn, hK⟩ := hM0
  refine lv_aload_n hx hb d_MM_belongs_0 rfl (lv_at hl 0 rfl) ?_
  refine lv_iload_n hx hb d_MM_belongs_1 rfl (lv_at hl 1 rfl) ?_
  refine vp_callSi (va_runV (own := R_MM) (As := [.int x]) (rest := []) ⟨hx, hb, hml, hown, hts⟩ (c_MM_isValue (l := l) (g := g) (md := md) (J := J) (n := n) (v := v) (kn := kn) (pr := pr) (ar := ar) (X := X) (x := x) (by omega)) (cwV 1 hts (gx_goodV wd_564 wd_566 ws_31 wd_7 wd_567) rfl rfl rfl (by decide +kernel) ⟨Nat.le_of_ble_eq_true rfl, Nat.le_of_ble_eq_true rfl⟩) (gc_preV (gc_recv hP hG (ci := 5) rfl (q0 := 0) rfl) hP hG) rfl rfl hl.1 rfl (lv_room (Nat.le_of_ble_eq_true rfl)) d_MM_belongs_2 ⟨Nat.le_refl _, Nat.le_refl _⟩).run (fun r hr2 => ?_)
  obtain ⟨z2, hq2, hz2⟩ := hr2
  subst hq2
  refine lv_if_eq (tgt := 16) hx hb d_MM_belongs_5 (by decide) (mt_z fun hc5 => ?_) (mt_nz fun hc5 => ?_)
  · ---- 5T
    refine lv_iconst (v := nI 0) hx hb d_MM_belongs_16 (by decide) ?_
    exact gc_retwz (u := (J, n, v, kn, pr, ar, X)) (v := false) (Wf := fun (u : gMS) => mW g md u.1 u.2.1 u.2.2.1 u.2.2.2.1 u.2.2.2.2.1 u.2.2.2.2.2.1 u.2.2.2.2.2.2) (post := fun r (u : gMS) => sp_blg (n, k, a, b, dp, fc) (v, vk, va, vb, vl) x y r ∧ mt_MR u (n, k, a, b, dp, fc) (v, vk, va, vb, vl)) hx hb hr hlk (⟨⟨false, rfl, (fun h => by cases h), (fun ⟨i9, _, h1, _⟩ => absurd (hz2.mpr ⟨i9, h1⟩) (by rw [hc5]; decide))⟩, hM⟩) hP hD hS d_MM_belongs_17
  · ---- 5F
    obtain ⟨i, hxi_i⟩ := hz2.mp hc5
    have hlt_i := hxi_i.1
    have hp2_i : 2 ^ i ≤ 2 ^ 20 := Nat.pow_le_pow_right (n := 2) (i := i) (j := 20) (by decide) (by omega)
    refine lv_aload_n hx hb d_MM_belongs_8 rfl (lv_at hl 0 rfl) ?_
    refine lv_iload_n hx hb d_MM_belongs_9 rfl (lv_at hl 2 rfl) ?_
    refine vp_callSi (va_runV (own := R_MM) (As := [.int y]) (rest := []) ⟨hx, hb, hml, hown, hts⟩ (c_MM_isType (l := l) (g := g) (md := md) (J := J) (n := n) (v := v) (kn := kn) (pr := pr) (ar := ar) (X := X) (x := y) (by omega)) (cwV 1 hts (gx_goodV wd_448 wd_450 ws_14 wd_7 wd_451) rfl rfl rfl (by decide +kernel) ⟨Nat.le_of_ble_eq_true rfl, Nat.le_of_ble_eq_true rfl⟩) (gc_preV (gc_recv hP hG (ci := 5) rfl (q0 := 0) rfl) hP hG) rfl rfl hl.1 rfl (lv_room (Nat.le_of_ble_eq_true rfl)) d_MM_belongs_10 ⟨Nat.le_refl _, Nat.le_refl _⟩).run (fun r hr10 => ?_)
    obtain ⟨z10, hq10, hz10⟩ := hr10
    subst hq10
    refine lv_if_ne (tgt := 18) hx hb d_MM_belongs_13 (by decide) (mt_nz fun hc13 => ?_) (mt_z fun hc13 => ?_)
    · ---- 5F 13T
      obtain ⟨j, hxi_j⟩ := hz10.mp hc13
      have hlt_j := hxi_j.1
      have hp2_j : 2 ^ j ≤ 2 ^ 20 := Nat.pow_le_pow_right (n := 2) (i := j) (j := 20) (by decide) (by omega)
      have hq2_j : 2 ^ j ≤ 2 ^ 12 := Nat.pow_le_pow_right (n := 2) (i := j) (j := 12) (by decide) (by omega)
      refine lv_aload_n hx hb d_MM_belongs_18 rfl (lv_at hl 0 rfl) ?_
      refine lv_iload_n hx hb d_MM_belongs_19 rfl (lv_at hl 1 rfl) ?_
      refine mt_ri (y := nI i) hxi_i.2 ?_
      refine gc_cwv (va_runV (own := R_MM) (As := [.int (nI i)]) (rest := []) ⟨hx, hb, hml, hown, hts⟩ (c_MM_prepare (l := l) (g := g) (md := md) (J := J) (n := n) (v := v) (kn := kn) (pr := pr) (ar := ar) (X := X) (k := k) (a := a) (b := b) (dp := dp) (fc := fc) (vk := vk) (va := va) (vb := vb) (vl := vl) (vi := i) hM hlt_i) (cwV 1 hts (gx_goodV wd_576 wd_578 ws_32 wd_7 wd_579) rfl rfl rfl (by decide +kernel) ⟨Nat.le_of_ble_eq_true rfl, Nat.le_of_ble_eq_true rfl⟩) (gc_preVW (gc_recv hP hG (ci := 5) rfl (q0 := 0) rfl) hP hG hD) rfl rfl hl.1 rfl (lv_room (Nat.le_of_ble_eq_true rfl)) d_MM_belongs_20 ⟨Nat.le_refl _, Nat.le_refl _⟩) hD hS (fun u9 H locs hu9 hP hD hS => ?_)
      obtain ⟨J9, n9, v9, kn9, pr9, ar9, X9⟩ := u9
      obtain ⟨hM9, hVs⟩ := hu9
      dsimp only at hP hD hVs
      have en9 : n9 = n := hM9.1
      have ev9 : v9 = v := hM9.2.1
      rw [en9, ev9] at hP hD hM9
      have hP : va_P g.1 gx_cl (mW g md J9 n v kn9 pr9 ar9 X9) H := hP
      have hD : va_D (gx_in (mW g md J n v kn pr ar X)) (mW g md J9 n v kn9 pr9 ar9 X9) := hD
      refine lv_aload_n hx hb d_MM_belongs_23 rfl (lv_at hl 0 rfl) ?_
      refine lv_iload_n hx hb d_MM_belongs_24 rfl (lv_at hl 1 rfl) ?_
      refine mt_ri (y := nI i) hxi_i.2 ?_
      refine lv_iload_n hx hb d_MM_belongs_25 rfl (lv_at hl 2 rfl) ?_
      refine mt_ri (y := nI j) hxi_j.2 ?_
      refine vp_callSi (va_runV (own := R_MM) (As := [.int (nI i), .int (nI j)]) (rest := []) ⟨hx, hb, hml, hown, hts⟩ (c_MM_isIn (l := l) (g := g) (md := md) (J := J9) (n := n) (v := v) (kn := kn9) (pr := pr9) (ar := ar9) (X := X9) (vi := i) (j := j) (by omega) (by omega)) (cwV 2 hts (gx_goodV wd_588 wd_590 ws_35 wd_7 wd_591) rfl rfl rfl (by decide +kernel) ⟨Nat.le_of_ble_eq_true rfl, Nat.le_of_ble_eq_true rfl⟩) (gc_preV (gc_recv hP hG (ci := 5) rfl (q0 := 0) rfl) hP hG) rfl rfl hl.1 rfl (lv_room (Nat.le_of_ble_eq_true rfl)) d_MM_belongs_26 ⟨Nat.le_refl _, Nat.le_refl _⟩).run (fun r hr26 => ?_)
      obtain ⟨z26, hq26, hz26⟩ := hr26
      subst hq26
      exact gc_retwz (u := (J9, n, v, kn9, pr9, ar9, X9)) (v := z26) (Wf := fun (u : gMS) => mW g md u.1 u.2.1 u.2.2.1 u.2.2.2.1 u.2.2.2.2.1 u.2.2.2.2.2.1 u.2.2.2.2.2.2) (post := fun r (u : gMS) => sp_blg (n, k, a, b, dp, fc) (v, vk, va, vb, vl) x y r ∧ mt_MR u (n, k, a, b, dp, fc) (v, vk, va, vb, vl)) hx hb hr hlk (⟨⟨z26, rfl, (fun h9 => ⟨i, j, hxi_i, hxi_j, (hz26.trans (mt_isin hVs hn12)).mp h9⟩), (fun ⟨i9, j9, h1, h2, h3⟩ => by have e0 := sp_is_inj (show v ≤ 100 by omega) h1 hxi_i; have e1 := sp_is_inj (show n ≤ 100 by omega) h2 hxi_j; subst e0; subst e1; exact (hz26.trans (mt_isin hVs hn12)).mpr h3)⟩, hM9⟩) hP hD hS d_MM_belongs_29
    · ---- 5F 13F
      refine lv_iconst (v := nI 0) hx hb d_MM_belongs_16 (by decide) ?_
      exact gc_retwz (u := (J, n, v, kn, pr, ar, X)) (v := false) (Wf := fun (u : gMS) => mW g md u.1 u.2.1 u.2.2.1 u.2.2.2.1 u.2.2.2.2.1 u.2.2.2.2.2.1 u.2.2.2.2.2.2) (post := fun r (u : gMS) => sp_blg (n, k, a, b, dp, fc) (v, vk, va, vb, vl) x y r ∧ mt_MR u (n, k, a, b, dp, fc) (v, vk, va, vb, vl)) hx hb hr hlk (⟨⟨false, rfl, (fun h => by cases h), (fun ⟨_, j9, _, h1, _⟩ => absurd (hz10.mpr ⟨j9, h1⟩) (by rw [hc13]; decide))⟩, hM⟩) hP hD hS d_MM_belongs_17

set_option maxHeartbeats 4000000 in
set_option maxRecDepth 100000 in
theorem c_MM_match {g : gG} {md : Nat → Nat} {J : Nat → Nat → Int32} {n v kn pr ar : Nat} {X : Nat → Int64} {k a b : Nat → Nat} {dp : Nat → Nat} {fc : Nat → Bool} {vk va vb vl : Nat → Nat} {x y o q : Int32} {l : Launch} (hM : mt_MR (J, n, v, kn, pr, ar, X) (n, k, a, b, dp, fc) (v, vk, va, vb, vl))  :
    gc_RW (S := gMS) l y_MM_match (gx_ws y_MM_match b_MM_match 5 (some .int)) 6 134 g [.ref (md 0), .int x, .int y, .int o, .int q] (mW g md J n v kn pr ar X) (fun (u : gMS) => mW g md u.1 u.2.1 u.2.2.1 u.2.2.2.1 u.2.2.2.2.1 u.2.2.2.2.2.1 u.2.2.2.2.2.2) (fun r (u : gMS) => sp_mat (n, k, a, b, dp, fc) (v, vk, va, vb, vl) x y o q r ∧ mt_MR u (n, k, a, b, dp, fc) (v, vk, va, vb, vl)) := by
  refine gx_body (by decide) (Nat.le_of_ble_eq_true rfl) ?_
  intro p e s m below meth c ls hAt hB hl
  obtain ⟨hx, hb, hml, hown, hts, hr, hlk, hnm⟩ := hAt
  have hown : s.vm.findClass R_MM = some m.cls := hown
  obtain ⟨⟨hP, hG⟩, hD0⟩ := hB
  have hD := gx_D.self hD0
  have hS : va_S (gx_in (mW g md J n v kn pr ar X)) s.heap s.heap [] := va_S.rf
  have hl : lv_has ls 5 [(0, .ref (md 0)), (1, .int x), (2, .int y), (3, .int o), (4, .int q)] := hl
  have hM0 := hM
  obtain ⟨-, -, hn12, hT, hE, hw, hdp, hv20, hV, hvw, hkn, hK⟩ := hM0
  refine lv_aload_n hx hb d_MM_match_0 rfl (lv_at hl 0 rfl) ?_
  refine lv_iload_n hx hb d_MM_match_1 rfl (lv_at hl 1 rfl) ?_
  refine vp_callSi (va_runV (own := R_MM) (As := [.int x]) (rest := []) ⟨hx, hb, hml, hown, hts⟩ (c_MM_isValue (l := l) (g := g) (md := md) (J := J) (n := n) (v := v) (kn := kn) (pr := pr) (ar := ar) (X := X) (x := x) (by omega)) (cwV 1 hts (gx_goodV wd_564 wd_566 ws_31 wd_7 wd_567) rfl rfl rfl (by decide +kernel) ⟨Nat.le_of_ble_eq_true rfl, Nat.le_of_ble_eq_true rfl⟩) (gc_preV (gc_recv hP hG (ci := 5) rfl (q0 := 0) rfl) hP hG) rfl rfl hl.1 rfl (lv_room (Nat.le_of_ble_eq_true rfl)) d_MM_match_2 ⟨Nat.le_refl _, Nat.le_refl _⟩).run (fun r hr2 => ?_)
  obtain ⟨z2, hq2, hz2⟩ := hr2
  subst hq2
  refine lv_if_eq (tgt := 33) hx hb d_MM_match_5 (by decide) (mt_z fun hc5 => ?_) (mt_nz fun hc5 => ?_)
  · ---- 5T
    refine lv_iconst (v := -1) hx hb d_MM_match_33 (by decide) ?_
    exact gc_retwi (u := (J, n, v, kn, pr, ar, X)) (Wf := fun (u : gMS) => mW g md u.1 u.2.1 u.2.2.1 u.2.2.2.1 u.2.2.2.2.1 u.2.2.2.2.2.1 u.2.2.2.2.2.2) (post := fun r (u : gMS) => sp_mat (n, k, a, b, dp, fc) (v, vk, va, vb, vl) x y o q r ∧ mt_MR u (n, k, a, b, dp, fc) (v, vk, va, vb, vl)) hx hb hr hlk (⟨Or.inl ⟨(fun ⟨i9, _, _, _, h1, _⟩ => absurd (hz2.mpr ⟨i9, h1⟩) (by rw [hc5]; decide)), rfl⟩, hM⟩) hP hD hS d_MM_match_34
  · ---- 5F
    obtain ⟨i, hxi_i⟩ := hz2.mp hc5
    have hlt_i := hxi_i.1
    have hp2_i : 2 ^ i ≤ 2 ^ 20 := Nat.pow_le_pow_right (n := 2) (i := i) (j := 20) (by decide) (by omega)
    refine lv_aload_n hx hb d_MM_match_8 rfl (lv_at hl 0 rfl) ?_
    refine lv_iload_n hx hb d_MM_match_9 rfl (lv_at hl 2 rfl) ?_
    refine vp_callSi (va_runV (own := R_MM) (As := [.int y]) (rest := []) ⟨hx, hb, hml, hown, hts⟩ (c_MM_isType (l := l) (g := g) (md := md) (J := J) (n := n) (v := v) (kn := kn) (pr := pr) (ar := ar) (X := X) (x := y) (by omega)) (cwV 1 hts (gx_goodV wd_448 wd_450 ws_14 wd_7 wd_451) rfl rfl rfl (by decide +kernel) ⟨Nat.le_of_ble_eq_true rfl, Nat.le_of_ble_eq_true rfl⟩) (gc_preV (gc_recv hP hG (ci := 5) rfl (q0 := 0) rfl) hP hG) rfl rfl hl.1 rfl (lv_room (Nat.le_of_ble_eq_true rfl)) d_MM_match_10 ⟨Nat.le_refl _, Nat.le_refl _⟩).run (fun r hr10 => ?_)
    obtain ⟨z10, hq10, hz10⟩ := hr10
    subst hq10
    refine lv_if_eq (tgt := 33) hx hb d_MM_match_13 (by decide) (mt_z fun hc13 => ?_) (mt_nz fun hc13 => ?_)
    · ---- 5F 13T
      refine lv_iconst (v := -1) hx hb d_MM_match_33 (by decide) ?_
      exact gc_retwi (u := (J, n, v, kn, pr, ar, X)) (Wf := fun (u : gMS) => mW g md u.1 u.2.1 u.2.2.1 u.2.2.2.1 u.2.2.2.2.1 u.2.2.2.2.2.1 u.2.2.2.2.2.2) (post := fun r (u : gMS) => sp_mat (n, k, a, b, dp, fc) (v, vk, va, vb, vl) x y o q r ∧ mt_MR u (n, k, a, b, dp, fc) (v, vk, va, vb, vl)) hx hb hr hlk (⟨Or.inl ⟨(fun ⟨_, i9, _, _, _, h1, _⟩ => absurd (hz10.mpr ⟨i9, h1⟩) (by rw [hc13]; decide)), rfl⟩, hM⟩) hP hD hS d_MM_match_34
    · ---- 5F 13F
      obtain ⟨j, hxi_j⟩ := hz10.mp hc13
      have hlt_j := hxi_j.1
      have hp2_j : 2 ^ j ≤ 2 ^ 20 := Nat.pow_le_pow_right (n := 2) (i := j) (j := 20) (by decide) (by omega)
      have hq2_j : 2 ^ j ≤ 2 ^ 12 := Nat.pow_le_pow_right (n := 2) (i := j) (j := 12) (by decide) (by omega)
      refine lv_aload_n hx hb d_MM_match_16 rfl (lv_at hl 0 rfl) ?_
      refine lv_iload_n hx hb d_MM_match_17 rfl (lv_at hl 3 rfl) ?_
      refine vp_callSi (va_runV (own := R_MM) (As := [.int o]) (rest := []) ⟨hx, hb, hml, hown, hts⟩ (c_MM_isType (l := l) (g := g) (md := md) (J := J) (n := n) (v := v) (kn := kn) (pr := pr) (ar := ar) (X := X) (x := o) (by omega)) (cwV 1 hts (gx_goodV wd_448 wd_450 ws_14 wd_7 wd_451) rfl rfl rfl (by decide +kernel) ⟨Nat.le_of_ble_eq_true rfl, Nat.le_of_ble_eq_true rfl⟩) (gc_preV (gc_recv hP hG (ci := 5) rfl (q0 := 0) rfl) hP hG) rfl rfl hl.1 rfl (lv_room (Nat.le_of_ble_eq_true rfl)) d_MM_match_18 ⟨Nat.le_refl _, Nat.le_refl _⟩).run (fun r hr18 => ?_)
      obtain ⟨z18, hq18, hz18⟩ := hr18
      subst hq18
      refine lv_if_eq (tgt := 33) hx hb d_MM_match_21 (by decide) (mt_z fun hc21 => ?_) (mt_nz fun hc21 => ?_)
      · ---- 5F 13F 21T
        refine lv_iconst (v := -1) hx hb d_MM_match_33 (by decide) ?_
        exact gc_retwi (u := (J, n, v, kn, pr, ar, X)) (Wf := fun (u : gMS) => mW g md u.1 u.2.1 u.2.2.1 u.2.2.2.1 u.2.2.2.2.1 u.2.2.2.2.2.1 u.2.2.2.2.2.2) (post := fun r (u : gMS) => sp_mat (n, k, a, b, dp, fc) (v, vk, va, vb, vl) x y o q r ∧ mt_MR u (n, k, a, b, dp, fc) (v, vk, va, vb, vl)) hx hb hr hlk (⟨Or.inl ⟨(fun ⟨_, _, i9, _, _, _, h1, _⟩ => absurd (hz18.mpr ⟨i9, h1⟩) (by rw [hc21]; decide)), rfl⟩, hM⟩) hP hD hS d_MM_match_34
      · ---- 5F 13F 21F
        obtain ⟨h, hxi_h⟩ := hz18.mp hc21
        have hlt_h := hxi_h.1
        have hp2_h : 2 ^ h ≤ 2 ^ 20 := Nat.pow_le_pow_right (n := 2) (i := h) (j := 20) (by decide) (by omega)
        have hq2_h : 2 ^ h ≤ 2 ^ 12 := Nat.pow_le_pow_right (n := 2) (i := h) (j := 12) (by decide) (by omega)
        refine lv_aload_n hx hb d_MM_match_24 rfl (lv_at hl 0 rfl) ?_
        refine lv_iload hx hb d_MM_match_25 (lv_at hl 4 rfl) ?_
        refine vp_callSi (va_runV (own := R_MM) (As := [.int q]) (rest := []) ⟨hx, hb, hml, hown, hts⟩ (c_MM_isType (l := l) (g := g) (md := md) (J := J) (n := n) (v := v) (kn := kn) (pr := pr) (ar := ar) (X := X) (x := q) (by omega)) (cwV 1 hts (gx_goodV wd_448 wd_450 ws_14 wd_7 wd_451) rfl rfl rfl (by decide +kernel) ⟨Nat.le_of_ble_eq_true rfl, Nat.le_of_ble_eq_true rfl⟩) (gc_preV (gc_recv hP hG (ci := 5) rfl (q0 := 0) rfl) hP hG) rfl rfl hl.1 rfl (lv_room (Nat.le_of_ble_eq_true rfl)) d_MM_match_27 ⟨Nat.le_refl _, Nat.le_refl _⟩).run (fun r hr27 => ?_)
        obtain ⟨z27, hq27, hz27⟩ := hr27
        subst hq27
        refine lv_if_ne (tgt := 35) hx hb d_MM_match_30 (by decide) (mt_nz fun hc30 => ?_) (mt_z fun hc30 => ?_)
        · ---- 5F 13F 21F 30T
          obtain ⟨f, hxi_f⟩ := hz27.mp hc30
          have hlt_f := hxi_f.1
          have hp2_f : 2 ^ f ≤ 2 ^ 20 := Nat.pow_le_pow_right (n := 2) (i := f) (j := 20) (by decide) (by omega)
          have hq2_f : 2 ^ f ≤ 2 ^ 12 := Nat.pow_le_pow_right (n := 2) (i := f) (j := 12) (by decide) (by omega)
          refine lv_aload_n hx hb d_MM_match_35 rfl (lv_at hl 0 rfl) ?_
          refine lv_iload_n hx hb d_MM_match_36 rfl (lv_at hl 1 rfl) ?_
          refine mt_ri (y := nI i) hxi_i.2 ?_
          refine gc_cwv (va_runV (own := R_MM) (As := [.int (nI i)]) (rest := []) ⟨hx, hb, hml, hown, hts⟩ (c_MM_prepare (l := l) (g := g) (md := md) (J := J) (n := n) (v := v) (kn := kn) (pr := pr) (ar := ar) (X := X) (k := k) (a := a) (b := b) (dp := dp) (fc := fc) (vk := vk) (va := va) (vb := vb) (vl := vl) (vi := i) hM hlt_i) (cwV 1 hts (gx_goodV wd_576 wd_578 ws_32 wd_7 wd_579) rfl rfl rfl (by decide +kernel) ⟨Nat.le_of_ble_eq_true rfl, Nat.le_of_ble_eq_true rfl⟩) (gc_preVW (gc_recv hP hG (ci := 5) rfl (q0 := 0) rfl) hP hG hD) rfl rfl hl.1 rfl (lv_room (Nat.le_of_ble_eq_true rfl)) d_MM_match_37 ⟨Nat.le_refl _, Nat.le_refl _⟩) hD hS (fun u9 H locs hu9 hP hD hS => ?_)
          obtain ⟨J9, n9, v9, kn9, pr9, ar9, X9⟩ := u9
          obtain ⟨hM9, hVs⟩ := hu9
          dsimp only at hP hD hVs
          have en9 : n9 = n := hM9.1
          have ev9 : v9 = v := hM9.2.1
          rw [en9, ev9] at hP hD hM9
          have hP : va_P g.1 gx_cl (mW g md J9 n v kn9 pr9 ar9 X9) H := hP
          have hD : va_D (gx_in (mW g md J n v kn pr ar X)) (mW g md J9 n v kn9 pr9 ar9 X9) := hD
          refine lv_aload_n hx hb d_MM_match_40 rfl (lv_at hl 0 rfl) ?_
          refine lv_iload_n hx hb d_MM_match_41 rfl (lv_at hl 1 rfl) ?_
          refine mt_ri (y := nI i) hxi_i.2 ?_
          refine lv_iload_n hx hb d_MM_match_42 rfl (lv_at hl 2 rfl) ?_
          refine mt_ri (y := nI j) hxi_j.2 ?_
          refine vp_callSi (va_runV (own := R_MM) (As := [.int (nI i), .int (nI j)]) (rest := []) ⟨hx, hb, hml, hown, hts⟩ (c_MM_isIn (l := l) (g := g) (md := md) (J := J9) (n := n) (v := v) (kn := kn9) (pr := pr9) (ar := ar9) (X := X9) (vi := i) (j := j) (by omega) (by omega)) (cwV 2 hts (gx_goodV wd_588 wd_590 ws_35 wd_7 wd_591) rfl rfl rfl (by decide +kernel) ⟨Nat.le_of_ble_eq_true rfl, Nat.le_of_ble_eq_true rfl⟩) (gc_preV (gc_recv hP hG (ci := 5) rfl (q0 := 0) rfl) hP hG) rfl rfl hl.1 rfl (lv_room (Nat.le_of_ble_eq_true rfl)) d_MM_match_43 ⟨Nat.le_refl _, Nat.le_refl _⟩).run (fun r hr43 => ?_)
          obtain ⟨z43, hq43, hz43⟩ := hr43
          subst hq43
          refine lv_if_eq (tgt := 53) hx hb d_MM_match_46 (by decide) (mt_z fun hc46 => ?_) (mt_nz fun hc46 => ?_)
          · ---- 5F 13F 21F 30T 46T
            refine lv_aload_n hx hb d_MM_match_53 rfl (lv_at hl 0 rfl) ?_
            refine lv_iload_n hx hb d_MM_match_54 rfl (lv_at hl 1 rfl) ?_
            refine mt_ri (y := nI i) hxi_i.2 ?_
            refine lv_iload_n hx hb d_MM_match_55 rfl (lv_at hl 3 rfl) ?_
            refine mt_ri (y := nI h) hxi_h.2 ?_
            refine vp_callSi (va_runV (own := R_MM) (As := [.int (nI i), .int (nI h)]) (rest := []) ⟨hx, hb, hml, hown, hts⟩ (c_MM_isIn (l := l) (g := g) (md := md) (J := J9) (n := n) (v := v) (kn := kn9) (pr := pr9) (ar := ar9) (X := X9) (vi := i) (j := h) (by omega) (by omega)) (cwV 2 hts (gx_goodV wd_588 wd_590 ws_35 wd_7 wd_591) rfl rfl rfl (by decide +kernel) ⟨Nat.le_of_ble_eq_true rfl, Nat.le_of_ble_eq_true rfl⟩) (gc_preV (gc_recv hP hG (ci := 5) rfl (q0 := 0) rfl) hP hG) rfl rfl hl.1 rfl (lv_room (Nat.le_of_ble_eq_true rfl)) d_MM_match_56 ⟨Nat.le_refl _, Nat.le_refl _⟩).run (fun r hr56 => ?_)
            obtain ⟨z56, hq56, hz56⟩ := hr56
            subst hq56
            refine lv_if_eq (tgt := 66) hx hb d_MM_match_59 (by decide) (mt_z fun hc59 => ?_) (mt_nz fun hc59 => ?_)
            · ---- 5F 13F 21F 30T 46T 59T
              refine lv_aload_n hx hb d_MM_match_66 rfl (lv_at hl 0 rfl) ?_
              refine lv_iload_n hx hb d_MM_match_67 rfl (lv_at hl 1 rfl) ?_
              refine mt_ri (y := nI i) hxi_i.2 ?_
              refine lv_iload hx hb d_MM_match_68 (lv_at hl 4 rfl) ?_
              refine mt_ri (y := nI f) hxi_f.2 ?_
              refine vp_callSi (va_runV (own := R_MM) (As := [.int (nI i), .int (nI f)]) (rest := []) ⟨hx, hb, hml, hown, hts⟩ (c_MM_isIn (l := l) (g := g) (md := md) (J := J9) (n := n) (v := v) (kn := kn9) (pr := pr9) (ar := ar9) (X := X9) (vi := i) (j := f) (by omega) (by omega)) (cwV 2 hts (gx_goodV wd_588 wd_590 ws_35 wd_7 wd_591) rfl rfl rfl (by decide +kernel) ⟨Nat.le_of_ble_eq_true rfl, Nat.le_of_ble_eq_true rfl⟩) (gc_preV (gc_recv hP hG (ci := 5) rfl (q0 := 0) rfl) hP hG) rfl rfl hl.1 rfl (lv_room (Nat.le_of_ble_eq_true rfl)) d_MM_match_70 ⟨Nat.le_refl _, Nat.le_refl _⟩).run (fun r hr70 => ?_)
              obtain ⟨z70, hq70, hz70⟩ := hr70
              subst hq70
              refine lv_if_eq (tgt := 80) hx hb d_MM_match_73 (by decide) (mt_z fun hc73 => ?_) (mt_nz fun hc73 => ?_)
              · ---- 5F 13F 21F 30T 46T 59T 73T
                refine lv_iconst (v := nI 0) hx hb d_MM_match_80 (by decide) ?_
                exact gc_retwi (u := (J9, n, v, kn9, pr9, ar9, X9)) (Wf := fun (u : gMS) => mW g md u.1 u.2.1 u.2.2.1 u.2.2.2.1 u.2.2.2.2.1 u.2.2.2.2.2.1 u.2.2.2.2.2.2) (post := fun r (u : gMS) => sp_mat (n, k, a, b, dp, fc) (v, vk, va, vb, vl) x y o q r ∧ mt_MR u (n, k, a, b, dp, fc) (v, vk, va, vb, vl)) hx hb hr hlk (⟨Or.inr ⟨i, j, h, f, hxi_i, hxi_j, hxi_h, hxi_f, Or.inr (Or.inr (Or.inr ⟨(fun h9 => by have h4 := (hz43.trans (mt_isin hVs hn12)).mpr h9; rw [hc46] at h4; cases h4), (fun h9 => by have h4 := (hz56.trans (mt_isin hVs hn12)).mpr h9; rw [hc59] at h4; cases h4), (fun h9 => by have h4 := (hz70.trans (mt_isin hVs hn12)).mpr h9; rw [hc73] at h4; cases h4), rfl⟩))⟩, hM9⟩) hP hD hS d_MM_match_81
              · ---- 5F 13F 21F 30T 46T 59T 73F
                refine lv_iconst (v := nI 3) hx hb d_MM_match_76 (by decide) ?_
                refine lv_goto (tgt := 81) hx hb d_MM_match_77 (by decide) ?_
                exact gc_retwi (u := (J9, n, v, kn9, pr9, ar9, X9)) (Wf := fun (u : gMS) => mW g md u.1 u.2.1 u.2.2.1 u.2.2.2.1 u.2.2.2.2.1 u.2.2.2.2.2.1 u.2.2.2.2.2.2) (post := fun r (u : gMS) => sp_mat (n, k, a, b, dp, fc) (v, vk, va, vb, vl) x y o q r ∧ mt_MR u (n, k, a, b, dp, fc) (v, vk, va, vb, vl)) hx hb hr hlk (⟨Or.inr ⟨i, j, h, f, hxi_i, hxi_j, hxi_h, hxi_f, Or.inr (Or.inr (Or.inl ⟨(fun h9 => by have h4 := (hz43.trans (mt_isin hVs hn12)).mpr h9; rw [hc46] at h4; cases h4), (fun h9 => by have h4 := (hz56.trans (mt_isin hVs hn12)).mpr h9; rw [hc59] at h4; cases h4), (hz70.trans (mt_isin hVs hn12)).mp hc73, rfl⟩))⟩, hM9⟩) hP hD hS d_MM_match_81
            · ---- 5F 13F 21F 30T 46T 59F
              refine lv_iconst (v := nI 2) hx hb d_MM_match_62 (by decide) ?_
              refine lv_goto (tgt := 81) hx hb d_MM_match_63 (by decide) ?_
              exact gc_retwi (u := (J9, n, v, kn9, pr9, ar9, X9)) (Wf := fun (u : gMS) => mW g md u.1 u.2.1 u.2.2.1 u.2.2.2.1 u.2.2.2.2.1 u.2.2.2.2.2.1 u.2.2.2.2.2.2) (post := fun r (u : gMS) => sp_mat (n, k, a, b, dp, fc) (v, vk, va, vb, vl) x y o q r ∧ mt_MR u (n, k, a, b, dp, fc) (v, vk, va, vb, vl)) hx hb hr hlk (⟨Or.inr ⟨i, j, h, f, hxi_i, hxi_j, hxi_h, hxi_f, Or.inr (Or.inl ⟨(fun h9 => by have h4 := (hz43.trans (mt_isin hVs hn12)).mpr h9; rw [hc46] at h4; cases h4), (hz56.trans (mt_isin hVs hn12)).mp hc59, rfl⟩)⟩, hM9⟩) hP hD hS d_MM_match_81
          · ---- 5F 13F 21F 30T 46F
            refine lv_iconst (v := nI 1) hx hb d_MM_match_49 (by decide) ?_
            refine lv_goto (tgt := 81) hx hb d_MM_match_50 (by decide) ?_
            exact gc_retwi (u := (J9, n, v, kn9, pr9, ar9, X9)) (Wf := fun (u : gMS) => mW g md u.1 u.2.1 u.2.2.1 u.2.2.2.1 u.2.2.2.2.1 u.2.2.2.2.2.1 u.2.2.2.2.2.2) (post := fun r (u : gMS) => sp_mat (n, k, a, b, dp, fc) (v, vk, va, vb, vl) x y o q r ∧ mt_MR u (n, k, a, b, dp, fc) (v, vk, va, vb, vl)) hx hb hr hlk (⟨Or.inr ⟨i, j, h, f, hxi_i, hxi_j, hxi_h, hxi_f, Or.inl ⟨(hz43.trans (mt_isin hVs hn12)).mp hc46, rfl⟩⟩, hM9⟩) hP hD hS d_MM_match_81
        · ---- 5F 13F 21F 30F
          refine lv_iconst (v := -1) hx hb d_MM_match_33 (by decide) ?_
          exact gc_retwi (u := (J, n, v, kn, pr, ar, X)) (Wf := fun (u : gMS) => mW g md u.1 u.2.1 u.2.2.1 u.2.2.2.1 u.2.2.2.2.1 u.2.2.2.2.2.1 u.2.2.2.2.2.2) (post := fun r (u : gMS) => sp_mat (n, k, a, b, dp, fc) (v, vk, va, vb, vl) x y o q r ∧ mt_MR u (n, k, a, b, dp, fc) (v, vk, va, vb, vl)) hx hb hr hlk (⟨Or.inl ⟨(fun ⟨_, _, _, i9, _, _, _, h1⟩ => absurd (hz27.mpr ⟨i9, h1⟩) (by rw [hc30]; decide)), rfl⟩, hM⟩) hP hD hS d_MM_match_34

set_option maxHeartbeats 4000000 in
set_option maxRecDepth 100000 in
theorem c_MM_sorts {g : gG} {md : Nat → Nat} {J : Nat → Nat → Int32} {n v kn pr ar : Nat} {X : Nat → Int64} {k a b : Nat → Nat} {dp : Nat → Nat} {fc : Nat → Bool} {vk va vb vl : Nat → Nat} {x : Int32} {l : Launch} (hM : mt_MR (J, n, v, kn, pr, ar, X) (n, k, a, b, dp, fc) (v, vk, va, vb, vl))  :
    gc_RW (S := gMS) l y_MM_sorts (gx_ws y_MM_sorts b_MM_sorts 4 (some .int)) 6 134 g [.ref (md 0), .int x] (mW g md J n v kn pr ar X) (fun (u : gMS) => mW g md u.1 u.2.1 u.2.2.1 u.2.2.2.1 u.2.2.2.2.1 u.2.2.2.2.2.1 u.2.2.2.2.2.2) (fun r (u : gMS) => sp_srt (n, k, a, b, dp, fc) (v, vk, va, vb, vl) x r ∧ mt_MR u (n, k, a, b, dp, fc) (v, vk, va, vb, vl)) := by
  refine gx_body (by decide) (Nat.le_of_ble_eq_true rfl) ?_
  intro p e s m below meth c ls hAt hB hl
  obtain ⟨hx, hb, hml, hown, hts, hr, hlk, hnm⟩ := hAt
  have hown : s.vm.findClass R_MM = some m.cls := hown
  obtain ⟨⟨hP, hG⟩, hD0⟩ := hB
  have hD := gx_D.self hD0
  have hS : va_S (gx_in (mW g md J n v kn pr ar X)) s.heap s.heap [] := va_S.rf
  have hl : lv_has ls 4 [(0, .ref (md 0)), (1, .int x)] := hl
  have hM0 := hM
  obtain ⟨-, -, hn12, hT, hE, hw, hdp, hv20, hV, hvw, hkn, hK⟩ := hM0
  refine lv_aload_n hx hb d_MM_sorts_0 rfl (lv_at hl 0 rfl) ?_
  refine lv_iload_n hx hb d_MM_sorts_1 rfl (lv_at hl 1 rfl) ?_
  refine vp_callSi (va_runV (own := R_MM) (As := [.int x]) (rest := []) ⟨hx, hb, hml, hown, hts⟩ (c_MM_isValue (l := l) (g := g) (md := md) (J := J) (n := n) (v := v) (kn := kn) (pr := pr) (ar := ar) (X := X) (x := x) (by omega)) (cwV 1 hts (gx_goodV wd_564 wd_566 ws_31 wd_7 wd_567) rfl rfl rfl (by decide +kernel) ⟨Nat.le_of_ble_eq_true rfl, Nat.le_of_ble_eq_true rfl⟩) (gc_preV (gc_recv hP hG (ci := 5) rfl (q0 := 0) rfl) hP hG) rfl rfl hl.1 rfl (lv_room (Nat.le_of_ble_eq_true rfl)) d_MM_sorts_2 ⟨Nat.le_refl _, Nat.le_refl _⟩).run (fun r hr2 => ?_)
  obtain ⟨z2, hq2, hz2⟩ := hr2
  subst hq2
  refine lv_if_ne (tgt := 10) hx hb d_MM_sorts_5 (by decide) (mt_nz fun hc5 => ?_) (mt_z fun hc5 => ?_)
  · ---- 5T
    obtain ⟨i, hxi_i⟩ := hz2.mp hc5
    have hlt_i := hxi_i.1
    have hp2_i : 2 ^ i ≤ 2 ^ 20 := Nat.pow_le_pow_right (n := 2) (i := i) (j := 20) (by decide) (by omega)
    rw [hxi_i.2] at hl
    have hl : lv_has ls 4 [(0, .ref (md 0)), (1, .int (nI i))] := hl
    refine lv_aload_n hx hb d_MM_sorts_10 rfl (lv_at hl 0 rfl) ?_
    refine lv_iload_n hx hb d_MM_sorts_11 rfl (lv_at hl 1 rfl) ?_
    refine gc_cwv (va_runV (own := R_MM) (As := [.int (nI i)]) (rest := []) ⟨hx, hb, hml, hown, hts⟩ (c_MM_prepare (l := l) (g := g) (md := md) (J := J) (n := n) (v := v) (kn := kn) (pr := pr) (ar := ar) (X := X) (k := k) (a := a) (b := b) (dp := dp) (fc := fc) (vk := vk) (va := va) (vb := vb) (vl := vl) (vi := i) hM hlt_i) (cwV 1 hts (gx_goodV wd_576 wd_578 ws_32 wd_7 wd_579) rfl rfl rfl (by decide +kernel) ⟨Nat.le_of_ble_eq_true rfl, Nat.le_of_ble_eq_true rfl⟩) (gc_preVW (gc_recv hP hG (ci := 5) rfl (q0 := 0) rfl) hP hG hD) rfl rfl hl.1 rfl (lv_room (Nat.le_of_ble_eq_true rfl)) d_MM_sorts_12 ⟨Nat.le_refl _, Nat.le_refl _⟩) hD hS (fun u9 H locs hu9 hP hD hS => ?_)
    obtain ⟨J9, n9, v9, kn9, pr9, ar9, X9⟩ := u9
    obtain ⟨hM9, hVs⟩ := hu9
    dsimp only at hP hD hVs
    have en9 : n9 = n := hM9.1
    have ev9 : v9 = v := hM9.2.1
    rw [en9, ev9] at hP hD hM9
    have hP : va_P g.1 gx_cl (mW g md J9 n v kn9 pr9 ar9 X9) H := hP
    have hD : va_D (gx_in (mW g md J n v kn pr ar X)) (mW g md J9 n v kn9 pr9 ar9 X9) := hD
    obtain ⟨f9, hf9⟩ := mt_bf (fun t => sp_bel (n, k, a, b, dp, fc) (v, vk, va, vb, vl) i t)
    refine lv_iconst (v := nI 0) hx hb d_MM_sorts_15 (by decide) ?_
    refine lv_istore_n (lv' := [(2, .int (nI 0)), (0, .ref (md 0)), (1, .int (nI i))]) hx hb d_MM_sorts_16 rfl hl (by decide) rfl (fun ls hl => ?_)
    refine lv_iconst (v := nI 0) hx hb d_MM_sorts_17 (by decide) ?_
    refine lv_istore_n (lv' := [(3, .int (nI 0)), (2, .int (nI 0)), (0, .ref (md 0)), (1, .int (nI i))]) hx hb d_MM_sorts_18 rfl hl (by decide) rfl (fun ls hl => ?_)
    have lp19 : ∀ (d : Nat) (cn : Nat) (q : Nat) (ls : Array Slot) (H : Heap) (locs : List Loc), d = n - q → (q ≤ n) → (cn = mt_num f9 q) → lv_has ls 4 [(3, .int (nI q)), (2, .int (nI cn)), (0, .ref (md 0)), (1, .int (nI i))] → va_P g.1 gx_cl (mW g md J9 n v kn9 pr9 ar9 X9) H → va_D (gx_in (mW g md J n v kn pr ar X)) (mW g md J9 n v kn9 pr9 ar9 X9) → va_S (gx_in (mW g md J n v kn pr ar X)) s.heap H locs → W p l e (gx_rm 6 134) s m ([.ref (md 0), .int x] : List Value).toArray below meth c H locs 0 0 (MQ below (va_Qi (fun r (u : gMS) => sp_srt (n, k, a, b, dp, fc) (v, vk, va, vb, vl) x r ∧ mt_MR u (n, k, a, b, dp, fc) (v, vk, va, vb, vl)) (fun u9 t9 => va_P g.1 gx_cl ((fun (u : gMS) => mW g md u.1 u.2.1 u.2.2.1 u.2.2.2.1 u.2.2.2.2.1 u.2.2.2.2.2.1 u.2.2.2.2.2.2) u9) t9.heap ∧ va_D (gx_in (mW g md J n v kn pr ar X)) ((fun (u : gMS) => mW g md u.1 u.2.1 u.2.2.1 u.2.2.2.1 u.2.2.2.2.1 u.2.2.2.2.2.1 u.2.2.2.2.2.2) u9)) (gx_in (mW g md J n v kn pr ar X))) ([.ref (md 0), .int x] : List Value).toArray s 0 0 (gx_in (mW g md J n v kn pr ar X))) (F0 m 19 ls []) := by
      intro d
      induction d using Nat.strongRecOn with
      | ind d ih19 =>
      intro cn q ls H locs hd hq hcn hl hP hD hS
      refine lv_iload_n hx hb d_MM_sorts_19 rfl (lv_at hl 0 rfl) ?_
      refine lv_aload_n hx hb d_MM_sorts_20 rfl (lv_at hl 2 rfl) ?_
      refine va_get (D := g.1) (own := R_MM) (ref := R_MM) (ci := 5) (v := .int (nI n)) (C := R_MM) (T := F_MM) (N := 16) hx hb hts in_MM hown hG.1 hP 0 rfl rfl 0 (by decide) (hts _ wd_383) (fun _ h9 => h9) rfl d_MM_sorts_21 ?_
      refine lv_icmp_ge (tgt := 50) hx hb d_MM_sorts_24 (by decide) (mt_le (by omega) (by omega) fun hc24 => ?_) (mt_nle (by omega) (by omega) fun hc24 => ?_)
      · ---- 24T
        refine lv_iload_n hx hb d_MM_sorts_50 rfl (lv_at hl 1 rfl) ?_
        exact gc_retwi (u := (J9, n, v, kn9, pr9, ar9, X9)) (Wf := fun (u : gMS) => mW g md u.1 u.2.1 u.2.2.1 u.2.2.2.1 u.2.2.2.2.1 u.2.2.2.2.2.1 u.2.2.2.2.2.2) (post := fun r (u : gMS) => sp_srt (n, k, a, b, dp, fc) (v, vk, va, vb, vl) x r ∧ mt_MR u (n, k, a, b, dp, fc) (v, vk, va, vb, vl)) hx hb hr hlk (⟨Or.inr ⟨i, f9, hxi_i, (fun t _ => hf9 t), by rw [hcn, show q = n by omega]⟩, hM9⟩) hP hD hS d_MM_sorts_51
      · ---- 24F
        have hcn9 := mt_num_n (f := f9) (n := q)
        refine lv_aload_n hx hb d_MM_sorts_27 rfl (lv_at hl 2 rfl) ?_
        refine lv_iload_n hx hb d_MM_sorts_28 rfl (lv_at hl 3 rfl) ?_
        refine lv_iload_n hx hb d_MM_sorts_29 rfl (lv_at hl 0 rfl) ?_
        refine vp_callSi (va_runV (own := R_MM) (As := [.int (nI i), .int (nI q)]) (rest := []) ⟨hx, hb, hml, hown, hts⟩ (c_MM_isIn (l := l) (g := g) (md := md) (J := J9) (n := n) (v := v) (kn := kn9) (pr := pr9) (ar := ar9) (X := X9) (vi := i) (j := q) (by omega) (by omega)) (cwV 2 hts (gx_goodV wd_588 wd_590 ws_35 wd_7 wd_591) rfl rfl rfl (by decide +kernel) ⟨Nat.le_of_ble_eq_true rfl, Nat.le_of_ble_eq_true rfl⟩) (gc_preV (gc_recv hP hG (ci := 5) rfl (q0 := 0) rfl) hP hG) rfl rfl hl.1 rfl (lv_room (Nat.le_of_ble_eq_true rfl)) d_MM_sorts_30 ⟨Nat.le_refl _, Nat.le_refl _⟩).run (fun r hr30 => ?_)
        obtain ⟨z30, hq30, hz30⟩ := hr30
        subst hq30
        refine lv_if_eq (tgt := 42) hx hb d_MM_sorts_33 (by decide) (mt_z fun hc33 => ?_) (mt_nz fun hc33 => ?_)
        · ---- 24F 33T
          refine lv_iload_n hx hb d_MM_sorts_42 rfl (lv_at hl 1 rfl) ?_
          refine lv_istore_n (lv' := [(2, .int (nI cn)), (3, .int (nI q)), (0, .ref (md 0)), (1, .int (nI i))]) hx hb d_MM_sorts_43 rfl hl (by decide) rfl (fun ls hl => ?_)
          refine lv_iinc (k := 1) (v := nI (q + 1)) (lv' := [(3, .int (nI (q + 1))), (2, .int (nI cn)), (0, .ref (md 0)), (1, .int (nI i))]) hx hb d_MM_sorts_44 hl rfl (by rw [lit1]; exact nI_1 _) (by decide) rfl (fun ls hl => ?_)
          refine lv_goto (tgt := 19) hx hb d_MM_sorts_47 (by decide) ?_
          exact ih19 _ (by omega) cn (q + 1) ls _ _ rfl (by omega) (mt_num_f hcn (fun h9 => by have h4 := (hz30.trans (mt_isin hVs hn12)).mpr ((hf9 q).mp h9); rw [hc33] at h4; cases h4)) (lv_sub hl [0, 1, 2, 3] rfl) hP hD hS
        · ---- 24F 33F
          refine lv_iload_n hx hb d_MM_sorts_36 rfl (lv_at hl 1 rfl) ?_
          refine lv_iconst (v := nI 1) hx hb d_MM_sorts_37 (by decide) ?_
          refine lv_iadd hx hb d_MM_sorts_38 ?_
          refine mt_ri (y := nI (cn + 1)) (nI_add _ _) ?_
          refine lv_goto (tgt := 43) hx hb d_MM_sorts_39 (by decide) ?_
          refine lv_istore_n (lv' := [(2, .int (nI (cn + 1))), (3, .int (nI q)), (0, .ref (md 0)), (1, .int (nI i))]) hx hb d_MM_sorts_43 rfl hl (by decide) rfl (fun ls hl => ?_)
          refine lv_iinc (k := 1) (v := nI (q + 1)) (lv' := [(3, .int (nI (q + 1))), (2, .int (nI (cn + 1))), (0, .ref (md 0)), (1, .int (nI i))]) hx hb d_MM_sorts_44 hl rfl (by rw [lit1]; exact nI_1 _) (by decide) rfl (fun ls hl => ?_)
          refine lv_goto (tgt := 19) hx hb d_MM_sorts_47 (by decide) ?_
          exact ih19 _ (by omega) (cn + 1) (q + 1) ls _ _ rfl (by omega) (mt_num_t hcn ((hf9 q).mpr ((hz30.trans (mt_isin hVs hn12)).mp hc33))) (lv_sub hl [0, 1, 2, 3] rfl) hP hD hS
    exact lp19 _ 0 0 ls _ _ rfl (Nat.zero_le _) (rfl) (lv_sub hl [0, 1, 2, 3] rfl) hP hD hS
  · ---- 5F
    refine lv_iconst (v := -1) hx hb d_MM_sorts_8 (by decide) ?_
    exact gc_retwi (u := (J, n, v, kn, pr, ar, X)) (Wf := fun (u : gMS) => mW g md u.1 u.2.1 u.2.2.1 u.2.2.2.1 u.2.2.2.2.1 u.2.2.2.2.2.1 u.2.2.2.2.2.2) (post := fun r (u : gMS) => sp_srt (n, k, a, b, dp, fc) (v, vk, va, vb, vl) x r ∧ mt_MR u (n, k, a, b, dp, fc) (v, vk, va, vb, vl)) hx hb hr hlk (⟨Or.inl ⟨(fun ⟨i9, h1⟩ => absurd (hz2.mpr ⟨i9, h1⟩) (by rw [hc5]; decide)), rfl⟩, hM⟩) hP hD hS d_MM_sorts_9

set_option maxHeartbeats 4000000 in
set_option maxRecDepth 100000 in
theorem c_MM_cut {g : gG} {md : Nat → Nat} {J : Nat → Nat → Int32} {n v kn pr ar : Nat} {X : Nat → Int64} {k a b : Nat → Nat} {dp : Nat → Nat} {fc : Nat → Bool} {vk va vb vl : Nat → Nat} {x : Int32} {l : Launch} (hM : mt_MR (J, n, v, kn, pr, ar, X) (n, k, a, b, dp, fc) (v, vk, va, vb, vl))  :
    gc_RW (S := gMS) l y_MM_cut (gx_ws y_MM_cut b_MM_cut 2 (some .int)) 0 0 g [.ref (md 0), .int x] (mW g md J n v kn pr ar X) (fun (u : gMS) => mW g md u.1 u.2.1 u.2.2.1 u.2.2.2.1 u.2.2.2.2.1 u.2.2.2.2.2.1 u.2.2.2.2.2.2) (fun r (u : gMS) => r = nI (sp_cutn n x) ∧ mt_MR u (sp_cut (n, k, a, b, dp, fc) x) (sp_cutV (v, vk, va, vb, vl))) := by
  refine gx_body (by decide) (Nat.le_of_ble_eq_true rfl) ?_
  intro p e s m below meth c ls hAt hB hl
  obtain ⟨hx, hb, hml, hown, hts, hr, hlk, hnm⟩ := hAt
  have hown : s.vm.findClass R_MM = some m.cls := hown
  obtain ⟨⟨hP, hG⟩, hD0⟩ := hB
  have hD := gx_D.self hD0
  have hS : va_S (gx_in (mW g md J n v kn pr ar X)) s.heap s.heap [] := va_S.rf
  have hl : lv_has ls 2 [(0, .ref (md 0)), (1, .int x)] := hl
  have hM0 := hM
  obtain ⟨-, -, hn12, hT, hE, hw, hdp, hv20, hV, hvw, hkn, hK⟩ := hM0
  refine lv_aload_n hx hb d_MM_cut_0 rfl (lv_at hl 0 rfl) ?_
  refine lv_iconst (v := nI 0) hx hb d_MM_cut_1 (by decide) ?_
  refine va_put (D := g.1) (own := R_MM) (ref := R_MM) (ci := 5) (v := .int (nI 0)) (ty := .int) (C := R_MM) (T := F_MM) (N := 16) hx hb hts in_MM t_MM t_MM_ok n_MM hown hG.1 hP hD hS 0 rfl rfl 6 (by decide) (hts _ wd_389) (fun _ h9 => h9) rfl (by decide +kernel) rfl rfl (Nat.le_of_ble_eq_true rfl) d_MM_cut_2 (fun H locs hP hD hS => ?_)
  have hP : va_P g.1 gx_cl (mW g md J n 0 kn pr ar X) H := hP
  have hD : va_D (gx_in (mW g md J n v kn pr ar X)) (mW g md J n 0 kn pr ar X) := hD
  refine lv_aload_n hx hb d_MM_cut_5 rfl (lv_at hl 0 rfl) ?_
  refine lv_iload_n hx hb d_MM_cut_6 rfl (lv_at hl 1 rfl) ?_
  refine lv_if_ge (tgt := 14) hx hb d_MM_cut_7 (by decide) (fun hc7 => ?_) (fun hc7 => ?_)
  · ---- 7T
    obtain ⟨j, hj31, hxj⟩ := nI_of (show ¬ x < 0 from fun h9 => absurd hc7 (by rw [Int32.not_le]; exact h9))
    refine lv_iload_n hx hb d_MM_cut_14 rfl (lv_at hl 1 rfl) ?_
    refine mt_ri (y := nI j) hxj ?_
    refine lv_aload_n hx hb d_MM_cut_15 rfl (lv_at hl 0 rfl) ?_
    refine va_get (D := g.1) (own := R_MM) (ref := R_MM) (ci := 5) (v := .int (nI n)) (C := R_MM) (T := F_MM) (N := 16) hx hb hts in_MM hown hG.1 hP 0 rfl rfl 0 (by decide) (hts _ wd_383) (fun _ h9 => h9) rfl d_MM_cut_16 ?_
    refine lv_icmp_ge (tgt := 26) hx hb d_MM_cut_19 (by decide) (mt_le (by omega) (by omega) fun hc19 => ?_) (mt_nle (by omega) (by omega) fun hc19 => ?_)
    · ---- 7T 19T
      refine lv_aload_n hx hb d_MM_cut_26 rfl (lv_at hl 0 rfl) ?_
      refine va_get (D := g.1) (own := R_MM) (ref := R_MM) (ci := 5) (v := .int (nI n)) (C := R_MM) (T := F_MM) (N := 16) hx hb hts in_MM hown hG.1 hP 0 rfl rfl 0 (by decide) (hts _ wd_383) (fun _ h9 => h9) rfl d_MM_cut_27 ?_
      refine va_put (D := g.1) (own := R_MM) (ref := R_MM) (ci := 5) (v := .int (nI n)) (ty := .int) (C := R_MM) (T := F_MM) (N := 16) hx hb hts in_MM t_MM t_MM_ok n_MM hown hG.1 hP hD hS 0 rfl rfl 0 (by decide) (hts _ wd_383) (fun _ h9 => h9) rfl (by decide +kernel) rfl rfl (Nat.le_of_ble_eq_true rfl) d_MM_cut_30 (fun H locs hP hD hS => ?_)
      have hP : va_P g.1 gx_cl (mW g md J n 0 kn pr ar X) H := hP
      have hD : va_D (gx_in (mW g md J n v kn pr ar X)) (mW g md J n 0 kn pr ar X) := hD
      refine lv_aload_n hx hb d_MM_cut_33 rfl (lv_at hl 0 rfl) ?_
      refine lv_iconst (v := nI 0) hx hb d_MM_cut_34 (by decide) ?_
      refine va_put (D := g.1) (own := R_MM) (ref := R_MM) (ci := 5) (v := .int (nI 0)) (ty := .int) (C := R_MM) (T := F_MM) (N := 16) hx hb hts in_MM t_MM t_MM_ok n_MM hown hG.1 hP hD hS 0 rfl rfl 12 (by decide) (hts _ wd_395) (fun _ h9 => h9) rfl (by decide +kernel) rfl rfl (Nat.le_of_ble_eq_true rfl) d_MM_cut_35 (fun H locs hP hD hS => ?_)
      have hP : va_P g.1 gx_cl (mW g md J n 0 0 pr ar X) H := hP
      have hD : va_D (gx_in (mW g md J n v kn pr ar X)) (mW g md J n 0 0 pr ar X) := hD
      refine lv_aload_n hx hb d_MM_cut_38 rfl (lv_at hl 0 rfl) ?_
      refine va_get (D := g.1) (own := R_MM) (ref := R_MM) (ci := 5) (v := .int (nI n)) (C := R_MM) (T := F_MM) (N := 16) hx hb hts in_MM hown hG.1 hP 0 rfl rfl 0 (by decide) (hts _ wd_383) (fun _ h9 => h9) rfl d_MM_cut_39 ?_
      exact gc_retwi (u := (J, n, 0, 0, pr, ar, X)) (Wf := fun (u : gMS) => mW g md u.1 u.2.1 u.2.2.1 u.2.2.2.1 u.2.2.2.2.1 u.2.2.2.2.2.1 u.2.2.2.2.2.2) (post := fun r (u : gMS) => r = nI (sp_cutn n x) ∧ mt_MR u (sp_cut (n, k, a, b, dp, fc) x) (sp_cutV (v, vk, va, vb, vl))) hx hb hr hlk (⟨by rw [mt_cut_p hj31 hxj, Nat.min_eq_left (by omega)], mt_MR_cut' hM (by rw [mt_cut_p hj31 hxj, Nat.min_eq_left (by omega)])⟩) hP hD hS d_MM_cut_42
    · ---- 7T 19F
      refine lv_iload_n hx hb d_MM_cut_22 rfl (lv_at hl 1 rfl) ?_
      refine mt_ri (y := nI j) hxj ?_
      refine lv_goto (tgt := 30) hx hb d_MM_cut_23 (by decide) ?_
      refine va_put (D := g.1) (own := R_MM) (ref := R_MM) (ci := 5) (v := .int (nI j)) (ty := .int) (C := R_MM) (T := F_MM) (N := 16) hx hb hts in_MM t_MM t_MM_ok n_MM hown hG.1 hP hD hS 0 rfl rfl 0 (by decide) (hts _ wd_383) (fun _ h9 => h9) rfl (by decide +kernel) rfl rfl (Nat.le_of_ble_eq_true rfl) d_MM_cut_30 (fun H locs hP hD hS => ?_)
      have hP : va_P g.1 gx_cl (mW g md J j 0 kn pr ar X) H := hP
      have hD : va_D (gx_in (mW g md J n v kn pr ar X)) (mW g md J j 0 kn pr ar X) := hD
      refine lv_aload_n hx hb d_MM_cut_33 rfl (lv_at hl 0 rfl) ?_
      refine lv_iconst (v := nI 0) hx hb d_MM_cut_34 (by decide) ?_
      refine va_put (D := g.1) (own := R_MM) (ref := R_MM) (ci := 5) (v := .int (nI 0)) (ty := .int) (C := R_MM) (T := F_MM) (N := 16) hx hb hts in_MM t_MM t_MM_ok n_MM hown hG.1 hP hD hS 0 rfl rfl 12 (by decide) (hts _ wd_395) (fun _ h9 => h9) rfl (by decide +kernel) rfl rfl (Nat.le_of_ble_eq_true rfl) d_MM_cut_35 (fun H locs hP hD hS => ?_)
      have hP : va_P g.1 gx_cl (mW g md J j 0 0 pr ar X) H := hP
      have hD : va_D (gx_in (mW g md J n v kn pr ar X)) (mW g md J j 0 0 pr ar X) := hD
      refine lv_aload_n hx hb d_MM_cut_38 rfl (lv_at hl 0 rfl) ?_
      refine va_get (D := g.1) (own := R_MM) (ref := R_MM) (ci := 5) (v := .int (nI j)) (C := R_MM) (T := F_MM) (N := 16) hx hb hts in_MM hown hG.1 hP 0 rfl rfl 0 (by decide) (hts _ wd_383) (fun _ h9 => h9) rfl d_MM_cut_39 ?_
      exact gc_retwi (u := (J, j, 0, 0, pr, ar, X)) (Wf := fun (u : gMS) => mW g md u.1 u.2.1 u.2.2.1 u.2.2.2.1 u.2.2.2.2.1 u.2.2.2.2.2.1 u.2.2.2.2.2.2) (post := fun r (u : gMS) => r = nI (sp_cutn n x) ∧ mt_MR u (sp_cut (n, k, a, b, dp, fc) x) (sp_cutV (v, vk, va, vb, vl))) hx hb hr hlk (⟨by rw [mt_cut_p hj31 hxj, Nat.min_eq_right (by omega)], mt_MR_cut' hM (by rw [mt_cut_p hj31 hxj, Nat.min_eq_right (by omega)])⟩) hP hD hS d_MM_cut_42
  · ---- 7F
    have hc7 : x < 0 := by rw [← Int32.not_le]; exact hc7
    refine lv_iconst (v := nI 0) hx hb d_MM_cut_10 (by decide) ?_
    refine lv_goto (tgt := 30) hx hb d_MM_cut_11 (by decide) ?_
    refine va_put (D := g.1) (own := R_MM) (ref := R_MM) (ci := 5) (v := .int (nI 0)) (ty := .int) (C := R_MM) (T := F_MM) (N := 16) hx hb hts in_MM t_MM t_MM_ok n_MM hown hG.1 hP hD hS 0 rfl rfl 0 (by decide) (hts _ wd_383) (fun _ h9 => h9) rfl (by decide +kernel) rfl rfl (Nat.le_of_ble_eq_true rfl) d_MM_cut_30 (fun H locs hP hD hS => ?_)
    have hP : va_P g.1 gx_cl (mW g md J 0 0 kn pr ar X) H := hP
    have hD : va_D (gx_in (mW g md J n v kn pr ar X)) (mW g md J 0 0 kn pr ar X) := hD
    refine lv_aload_n hx hb d_MM_cut_33 rfl (lv_at hl 0 rfl) ?_
    refine lv_iconst (v := nI 0) hx hb d_MM_cut_34 (by decide) ?_
    refine va_put (D := g.1) (own := R_MM) (ref := R_MM) (ci := 5) (v := .int (nI 0)) (ty := .int) (C := R_MM) (T := F_MM) (N := 16) hx hb hts in_MM t_MM t_MM_ok n_MM hown hG.1 hP hD hS 0 rfl rfl 12 (by decide) (hts _ wd_395) (fun _ h9 => h9) rfl (by decide +kernel) rfl rfl (Nat.le_of_ble_eq_true rfl) d_MM_cut_35 (fun H locs hP hD hS => ?_)
    have hP : va_P g.1 gx_cl (mW g md J 0 0 0 pr ar X) H := hP
    have hD : va_D (gx_in (mW g md J n v kn pr ar X)) (mW g md J 0 0 0 pr ar X) := hD
    refine lv_aload_n hx hb d_MM_cut_38 rfl (lv_at hl 0 rfl) ?_
    refine va_get (D := g.1) (own := R_MM) (ref := R_MM) (ci := 5) (v := .int (nI 0)) (C := R_MM) (T := F_MM) (N := 16) hx hb hts in_MM hown hG.1 hP 0 rfl rfl 0 (by decide) (hts _ wd_383) (fun _ h9 => h9) rfl d_MM_cut_39 ?_
    exact gc_retwi (u := (J, 0, 0, 0, pr, ar, X)) (Wf := fun (u : gMS) => mW g md u.1 u.2.1 u.2.2.1 u.2.2.2.1 u.2.2.2.2.1 u.2.2.2.2.2.1 u.2.2.2.2.2.2) (post := fun r (u : gMS) => r = nI (sp_cutn n x) ∧ mt_MR u (sp_cut (n, k, a, b, dp, fc) x) (sp_cutV (v, vk, va, vb, vl))) hx hb hr hlk (⟨by rw [mt_cut_n hc7], mt_MR_cut' hM (by rw [mt_cut_n hc7])⟩) hP hD hS d_MM_cut_42
