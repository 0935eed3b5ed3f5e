set_option maxHeartbeats 4000000 in
set_option maxRecDepth 100000 in
theorem c_MM_meetsE {g : gG} {md : Nat → Nat} {J : Nat → Nat → Int32} {n v kn pr ar : Nat} {X : Nat → Int64} {i : Nat} {l : Launch} (hi9 : i ≤ 12) :
    gc_RO l y_MM_meets (gx_ws y_MM_meets b_MM_meets 7 (some .boolean)) 1 22 g [.ref (md 0), .int (nI i), .int (-1), .int (nI 1)] (mW g md J n v kn pr ar X) (fun r => ∃ z, r = mt_b z ∧ (z = true ↔ ∃ x, x < 8192 ∧ (mt_ms X 0 x && x.testBit i) = true)) := by
  refine gx_body (by decide) (Nat.le_of_ble_eq_true rfl) ?_
  intro p e s m below meth c ls hAt hB hl
  obtain ⟨hx, hb, hml, hown, hts, hr, hlk, hnm⟩ := hAt
  have hown : s.vm.findClass R_MM = some m.cls := hown
  obtain ⟨hP, hG⟩ := hB
  have hl : lv_has ls 7 [(0, .ref (md 0)), (1, .int (nI i)), (2, .int (-1)), (3, .int (nI 1))] := hl
  refine lv_iconst (v := nI 0) hx hb d_MM_meets_0 (by decide) ?_
  refine lv_istore (lv' := [(4, .int (nI 0)), (0, .ref (md 0)), (1, .int (nI i)), (2, .int (-1)), (3, .int (nI 1))]) hx hb d_MM_meets_1 hl (by decide) rfl (fun ls hl => ?_)
  refine lv_iconst (v := nI 0) hx hb d_MM_meets_3 (by decide) ?_
  refine lv_istore (lv' := [(5, .int (nI 0)), (4, .int (nI 0)), (0, .ref (md 0)), (1, .int (nI i)), (2, .int (-1)), (3, .int (nI 1))]) hx hb d_MM_meets_4 hl (by decide) rfl (fun ls hl => ?_)
  have lp6 : ∀ (d : Nat) (ff : Bool) (q : Nat) (ls : Array Slot), d = 8192 - q → (q ≤ 8192) → (ff = true ↔ ∃ x, x < q ∧ (mt_ms X 0 x && x.testBit i) = true) → lv_has ls 7 [(5, .int (nI q)), (4, .int (mt_b ff)), (0, .ref (md 0)), (1, .int (nI i)), (2, .int (-1)), (3, .int (nI 1))] → W p l e (gx_rm 1 22) s m ([.ref (md 0), .int (nI i), .int (-1), .int (nI 1)] : List Value).toArray below meth c s.heap [] 0 0 (MQ below (vp_Si (fun r => ∃ z, r = mt_b z ∧ (z = true ↔ ∃ x, x < 8192 ∧ (mt_ms X 0 x && x.testBit i) = true))) ([.ref (md 0), .int (nI i), .int (-1), .int (nI 1)] : List Value).toArray s 0 0 (fun _ => False)) (F0 m 6 ls []) := by
    intro d
    induction d using Nat.strongRecOn with
    | ind d ih6 =>
    intro ff q ls hd hq hff hl
    refine lv_iload hx hb d_MM_meets_6 (lv_at hl 0 rfl) ?_
    refine lv_sipush (v := nI 8192) hx hb d_MM_meets_8 (by decide) ?_
    refine lv_icmp_ge (tgt := 87) hx hb d_MM_meets_11 (by decide) (mt_le (by omega) (by omega) fun hc11 => ?_) (mt_nle (by omega) (by omega) fun hc11 => ?_)
    · ---- 11T
      refine lv_iload hx hb d_MM_meets_87 (lv_at hl 1 rfl) ?_
      exact gc_retz (v := ff) (post := fun r => ∃ z, r = mt_b z ∧ (z = true ↔ ∃ x, x < 8192 ∧ (mt_ms X 0 x && x.testBit i) = true)) hx hb hr hlk (⟨ff, rfl, by rw [hff, show q = 8192 by omega]⟩) d_MM_meets_89
    · ---- 11F
      have ct62 : ∀ (z6 : Bool), z6 = (mt_ms X 0 q && q.testBit i) → W p l e (gx_rm 1 22) s m ([.ref (md 0), .int (nI i), .int (-1), .int (nI 1)] : List Value).toArray below meth c s.heap [] 0 0 (MQ below (vp_Si (fun r => ∃ z, r = mt_b z ∧ (z = true ↔ ∃ x, x < 8192 ∧ (mt_ms X 0 x && x.testBit i) = true))) ([.ref (md 0), .int (nI i), .int (-1), .int (nI 1)] : List Value).toArray s 0 0 (fun _ => False)) (F0 m 62 ls [.int (mt_b z6)]) := by
        intro z6 hcut62
        refine lv_istore (lv' := [(6, .int (mt_b z6)), (5, .int (nI q)), (4, .int (mt_b ff)), (0, .ref (md 0)), (1, .int (nI i)), (2, .int (-1)), (3, .int (nI 1))]) hx hb d_MM_meets_62 hl (by decide) rfl (fun ls hl => ?_)
        refine lv_iload hx hb d_MM_meets_64 (lv_at hl 2 rfl) ?_
        refine lv_if_ne (tgt := 74) hx hb d_MM_meets_66 (by decide) (mt_nz fun hc66 => ?_) (mt_z fun hc66 => ?_)
        · ---- 11F 66T
          refine lv_iconst (v := nI 1) hx hb d_MM_meets_74 (by decide) ?_
          refine lv_goto (tgt := 79) hx hb d_MM_meets_75 (by decide) ?_
          refine mt_ri (y := mt_b true) rfl ?_
          refine lv_istore (lv' := [(4, .int (mt_b true)), (6, .int (mt_b z6)), (5, .int (nI q)), (0, .ref (md 0)), (1, .int (nI i)), (2, .int (-1)), (3, .int (nI 1))]) hx hb d_MM_meets_79 hl (by decide) rfl (fun ls hl => ?_)
          refine lv_iinc (k := 2) (v := nI (q + 1)) (lv' := [(5, .int (nI (q + 1))), (4, .int (mt_b true)), (6, .int (mt_b z6)), (0, .ref (md 0)), (1, .int (nI i)), (2, .int (-1)), (3, .int (nI 1))]) hx hb d_MM_meets_81 hl rfl (by rw [lit1]; exact nI_1 _) (by decide) rfl (fun ls hl => ?_)
          refine lv_goto (tgt := 6) hx hb d_MM_meets_84 (by decide) ?_
          exact ih6 _ (by omega) true (q + 1) ls rfl (by omega) (mt_any_s (f := (fun x => mt_ms X 0 x && x.testBit i)) hff hcut62 (by rw [hc66]; rfl)) (lv_sub hl [0, 1, 3, 4, 5, 6] rfl)
        · ---- 11F 66F
          refine lv_iload hx hb d_MM_meets_69 (lv_at hl 0 rfl) ?_
          refine lv_if_eq (tgt := 78) hx hb d_MM_meets_71 (by decide) (mt_z fun hc71 => ?_) (mt_nz fun hc71 => ?_)
          · ---- 11F 66F 71T
            refine lv_iconst (v := nI 0) hx hb d_MM_meets_78 (by decide) ?_
            refine mt_ri (y := mt_b false) rfl ?_
            refine lv_istore (lv' := [(4, .int (mt_b false)), (6, .int (mt_b z6)), (5, .int (nI q)), (0, .ref (md 0)), (1, .int (nI i)), (2, .int (-1)), (3, .int (nI 1))]) hx hb d_MM_meets_79 hl (by decide) rfl (fun ls hl => ?_)
            refine lv_iinc (k := 2) (v := nI (q + 1)) (lv' := [(5, .int (nI (q + 1))), (4, .int (mt_b false)), (6, .int (mt_b z6)), (0, .ref (md 0)), (1, .int (nI i)), (2, .int (-1)), (3, .int (nI 1))]) hx hb d_MM_meets_81 hl rfl (by rw [lit1]; exact nI_1 _) (by decide) rfl (fun ls hl => ?_)
            refine lv_goto (tgt := 6) hx hb d_MM_meets_84 (by decide) ?_
            exact ih6 _ (by omega) false (q + 1) ls rfl (by omega) (mt_any_s (f := (fun x => mt_ms X 0 x && x.testBit i)) hff hcut62 (by rw [hc66, hc71]; rfl)) (lv_sub hl [0, 1, 3, 4, 5, 6] rfl)
          · ---- 11F 66F 71F
            refine lv_iconst (v := nI 1) hx hb d_MM_meets_74 (by decide) ?_
            refine lv_goto (tgt := 79) hx hb d_MM_meets_75 (by decide) ?_
            refine mt_ri (y := mt_b true) rfl ?_
            refine lv_istore (lv' := [(4, .int (mt_b true)), (6, .int (mt_b z6)), (5, .int (nI q)), (0, .ref (md 0)), (1, .int (nI i)), (2, .int (-1)), (3, .int (nI 1))]) hx hb d_MM_meets_79 hl (by decide) rfl (fun ls hl => ?_)
            refine lv_iinc (k := 2) (v := nI (q + 1)) (lv' := [(5, .int (nI (q + 1))), (4, .int (mt_b true)), (6, .int (mt_b z6)), (0, .ref (md 0)), (1, .int (nI i)), (2, .int (-1)), (3, .int (nI 1))]) hx hb d_MM_meets_81 hl rfl (by rw [lit1]; exact nI_1 _) (by decide) rfl (fun ls hl => ?_)
            refine lv_goto (tgt := 6) hx hb d_MM_meets_84 (by decide) ?_
            exact ih6 _ (by omega) true (q + 1) ls rfl (by omega) (mt_any_s (f := (fun x => mt_ms X 0 x && x.testBit i)) hff hcut62 (by rw [hc66, hc71]; rfl)) (lv_sub hl [0, 1, 3, 4, 5, 6] rfl)
      refine lv_aload_n hx hb d_MM_meets_14 rfl (lv_at hl 2 rfl) ?_
      refine lv_iconst (v := nI 0) hx hb d_MM_meets_15 (by decide) ?_
      refine lv_iload hx hb d_MM_meets_16 (lv_at hl 0 rfl) ?_
      refine vp_callSi (va_runV (own := R_MM) (As := [.int (nI 0), .int (nI q)]) (rest := []) ⟨hx, hb, hml, hown, hts⟩ (c_MM_has (l := l) (g := g) (md := md) (J := J) (n := n) (v := v) (kn := kn) (pr := pr) (ar := ar) (X := X) (s0 := 0) (cc := 0) (i := q) (by omega) (by omega) (by omega)) (cwV 2 hts (gx_goodV wd_500 wd_502 ws_20 wd_7 wd_503) rfl rfl rfl (by decide +kernel) ⟨Nat.le_of_ble_eq_true rfl, Nat.le_of_ble_eq_true rfl⟩) (gc_preV (gc_recv hP hG (ci := 5) rfl (q0 := 0) rfl) hP hG) rfl rfl hl.1 rfl (lv_room (Nat.le_of_ble_eq_true rfl)) d_MM_meets_18 ⟨Nat.le_refl _, Nat.le_refl _⟩).run (fun r hr18 => ?_)
      subst hr18
      refine lv_if_eq (tgt := 61) hx hb d_MM_meets_21 (by decide) (mt_z fun hc21 => ?_) (mt_nz fun hc21 => ?_)
      · ---- 11F 21T
        refine lv_iconst (v := nI 0) hx hb d_MM_meets_61 (by decide) ?_
        exact ct62 false (by simp [hc21])
      · ---- 11F 21F
        refine lv_iload hx hb d_MM_meets_24 (lv_at hl 0 rfl) ?_
        refine lv_iload_n hx hb d_MM_meets_26 rfl (lv_at hl 3 rfl) ?_
        refine lv_ishr hx hb d_MM_meets_27 ?_
        refine lv_iconst (v := nI 1) hx hb d_MM_meets_28 (by decide) ?_
        refine lv_iand hx hb d_MM_meets_29 ?_
        refine mt_ri (y := mt_b (Nat.testBit q i)) (mt_bit1 (by omega) (by omega)) ?_
        refine lv_iconst (v := nI 1) hx hb d_MM_meets_30 (by decide) ?_
        refine lv_icmp_ne (tgt := 61) hx hb d_MM_meets_31 (by decide) (mt_nb1 fun hc31 => ?_) (mt_b1 fun hc31 => ?_)
        · ---- 11F 21F 31T
          refine lv_iconst (v := nI 0) hx hb d_MM_meets_61 (by decide) ?_
          exact ct62 false (by simp [hc21, hc31])
        · ---- 11F 21F 31F
          refine lv_iload_n hx hb d_MM_meets_34 rfl (lv_at hl 4 rfl) ?_
          refine lv_if_lt (tgt := 57) hx hb d_MM_meets_35 (by decide) (fun _ => ?_) (fun h9 => absurd (by decide) h9)
          refine lv_iconst (v := nI 1) hx hb d_MM_meets_57 (by decide) ?_
          refine lv_goto (tgt := 62) hx hb d_MM_meets_58 (by decide) ?_
          exact ct62 true (by simp [hc21, hc31])
  exact lp6 _ false 0 ls rfl (Nat.zero_le _) (⟨fun h9 => (by cases h9), fun ⟨x, h9, _⟩ => absurd h9 (by omega)⟩) (lv_sub hl [0, 1, 2, 3, 4, 5] rfl)

set_option maxHeartbeats 4000000 in
set_option maxRecDepth 100000 in
theorem c_MM_meets0 {g : gG} {md : Nat → Nat} {J : Nat → Nat → Int32} {n v kn pr ar : Nat} {X : Nat → Int64} {i j : Nat} {l : Launch} (hi9 : i ≤ 12) (hj9 : j ≤ 12) :
    gc_RO l y_MM_meets (gx_ws y_MM_meets b_MM_meets 7 (some .boolean)) 1 22 g [.ref (md 0), .int (nI i), .int (nI j), .int (nI 0)] (mW g md J n v kn pr ar X) (fun r => ∃ z, r = mt_b z ∧ (z = true ↔ ∃ x, x < 8192 ∧ (mt_ms X 0 x && (x.testBit i && !x.testBit j)) = true)) := by
  refine gx_body (by decide) (Nat.le_of_ble_eq_true rfl) ?_
  intro p e s m below meth c ls hAt hB hl
  obtain ⟨hx, hb, hml, hown, hts, hr, hlk, hnm⟩ := hAt
  have hown : s.vm.findClass R_MM = some m.cls := hown
  obtain ⟨hP, hG⟩ := hB
  have hl : lv_has ls 7 [(0, .ref (md 0)), (1, .int (nI i)), (2, .int (nI j)), (3, .int (nI 0))] := hl
  refine lv_iconst (v := nI 0) hx hb d_MM_meets_0 (by decide) ?_
  refine lv_istore (lv' := [(4, .int (nI 0)), (0, .ref (md 0)), (1, .int (nI i)), (2, .int (nI j)), (3, .int (nI 0))]) hx hb d_MM_meets_1 hl (by decide) rfl (fun ls hl => ?_)
  refine lv_iconst (v := nI 0) hx hb d_MM_meets_3 (by decide) ?_
  refine lv_istore (lv' := [(5, .int (nI 0)), (4, .int (nI 0)), (0, .ref (md 0)), (1, .int (nI i)), (2, .int (nI j)), (3, .int (nI 0))]) hx hb d_MM_meets_4 hl (by decide) rfl (fun ls hl => ?_)
  have lp6 : ∀ (d : Nat) (ff : Bool) (q : Nat) (ls : Array Slot), d = 8192 - q → (q ≤ 8192) → (ff = true ↔ ∃ x, x < q ∧ (mt_ms X 0 x && (x.testBit i && !x.testBit j)) = true) → lv_has ls 7 [(5, .int (nI q)), (4, .int (mt_b ff)), (0, .ref (md 0)), (1, .int (nI i)), (2, .int (nI j)), (3, .int (nI 0))] → W p l e (gx_rm 1 22) s m ([.ref (md 0), .int (nI i), .int (nI j), .int (nI 0)] : List Value).toArray below meth c s.heap [] 0 0 (MQ below (vp_Si (fun r => ∃ z, r = mt_b z ∧ (z = true ↔ ∃ x, x < 8192 ∧ (mt_ms X 0 x && (x.testBit i && !x.testBit j)) = true))) ([.ref (md 0), .int (nI i), .int (nI j), .int (nI 0)] : List Value).toArray s 0 0 (fun _ => False)) (F0 m 6 ls []) := by
    intro d
    induction d using Nat.strongRecOn with
    | ind d ih6 =>
    intro ff q ls hd hq hff hl
    refine lv_iload hx hb d_MM_meets_6 (lv_at hl 0 rfl) ?_
    refine lv_sipush (v := nI 8192) hx hb d_MM_meets_8 (by decide) ?_
    refine lv_icmp_ge (tgt := 87) hx hb d_MM_meets_11 (by decide) (mt_le (by omega) (by omega) fun hc11 => ?_) (mt_nle (by omega) (by omega) fun hc11 => ?_)
    · ---- 11T
      refine lv_iload hx hb d_MM_meets_87 (lv_at hl 1 rfl) ?_
      exact gc_retz (v := ff) (post := fun r => ∃ z, r = mt_b z ∧ (z = true ↔ ∃ x, x < 8192 ∧ (mt_ms X 0 x && (x.testBit i && !x.testBit j)) = true)) hx hb hr hlk (⟨ff, rfl, by rw [hff, show q = 8192 by omega]⟩) d_MM_meets_89
    · ---- 11F
      have ct62 : ∀ (z6 : Bool), z6 = (mt_ms X 0 q && (q.testBit i && !q.testBit j)) → W p l e (gx_rm 1 22) s m ([.ref (md 0), .int (nI i), .int (nI j), .int (nI 0)] : List Value).toArray below meth c s.heap [] 0 0 (MQ below (vp_Si (fun r => ∃ z, r = mt_b z ∧ (z = true ↔ ∃ x, x < 8192 ∧ (mt_ms X 0 x && (x.testBit i && !x.testBit j)) = true))) ([.ref (md 0), .int (nI i), .int (nI j), .int (nI 0)] : List Value).toArray s 0 0 (fun _ => False)) (F0 m 62 ls [.int (mt_b z6)]) := by
        intro z6 hcut62
        refine lv_istore (lv' := [(6, .int (mt_b z6)), (5, .int (nI q)), (4, .int (mt_b ff)), (0, .ref (md 0)), (1, .int (nI i)), (2, .int (nI j)), (3, .int (nI 0))]) hx hb d_MM_meets_62 hl (by decide) rfl (fun ls hl => ?_)
        refine lv_iload hx hb d_MM_meets_64 (lv_at hl 2 rfl) ?_
        refine lv_if_ne (tgt := 74) hx hb d_MM_meets_66 (by decide) (mt_nz fun hc66 => ?_) (mt_z fun hc66 => ?_)
        · ---- 11F 66T
          refine lv_iconst (v := nI 1) hx hb d_MM_meets_74 (by decide) ?_
          refine lv_goto (tgt := 79) hx hb d_MM_meets_75 (by decide) ?_
          refine mt_ri (y := mt_b true) rfl ?_
          refine lv_istore (lv' := [(4, .int (mt_b true)), (6, .int (mt_b z6)), (5, .int (nI q)), (0, .ref (md 0)), (1, .int (nI i)), (2, .int (nI j)), (3, .int (nI 0))]) hx hb d_MM_meets_79 hl (by decide) rfl (fun ls hl => ?_)
          refine lv_iinc (k := 2) (v := nI (q + 1)) (lv' := [(5, .int (nI (q + 1))), (4, .int (mt_b true)), (6, .int (mt_b z6)), (0, .ref (md 0)), (1, .int (nI i)), (2, .int (nI j)), (3, .int (nI 0))]) hx hb d_MM_meets_81 hl rfl (by rw [lit1]; exact nI_1 _) (by decide) rfl (fun ls hl => ?_)
          refine lv_goto (tgt := 6) hx hb d_MM_meets_84 (by decide) ?_
          exact ih6 _ (by omega) true (q + 1) ls rfl (by omega) (mt_any_s (f := (fun x => mt_ms X 0 x && (x.testBit i && !x.testBit j))) hff hcut62 (by rw [hc66]; rfl)) (lv_sub hl [0, 1, 3, 4, 5, 6] rfl)
        · ---- 11F 66F
          refine lv_iload hx hb d_MM_meets_69 (lv_at hl 0 rfl) ?_
          refine lv_if_eq (tgt := 78) hx hb d_MM_meets_71 (by decide) (mt_z fun hc71 => ?_) (mt_nz fun hc71 => ?_)
          · ---- 11F 66F 71T
            refine lv_iconst (v := nI 0) hx hb d_MM_meets_78 (by decide) ?_
            refine mt_ri (y := mt_b false) rfl ?_
            refine lv_istore (lv' := [(4, .int (mt_b false)), (6, .int (mt_b z6)), (5, .int (nI q)), (0, .ref (md 0)), (1, .int (nI i)), (2, .int (nI j)), (3, .int (nI 0))]) hx hb d_MM_meets_79 hl (by decide) rfl (fun ls hl => ?_)
            refine lv_iinc (k := 2) (v := nI (q + 1)) (lv' := [(5, .int (nI (q + 1))), (4, .int (mt_b false)), (6, .int (mt_b z6)), (0, .ref (md 0)), (1, .int (nI i)), (2, .int (nI j)), (3, .int (nI 0))]) hx hb d_MM_meets_81 hl rfl (by rw [lit1]; exact nI_1 _) (by decide) rfl (fun ls hl => ?_)
            refine lv_goto (tgt := 6) hx hb d_MM_meets_84 (by decide) ?_
            exact ih6 _ (by omega) false (q + 1) ls rfl (by omega) (mt_any_s (f := (fun x => mt_ms X 0 x && (x.testBit i && !x.testBit j))) hff hcut62 (by rw [hc66, hc71]; rfl)) (lv_sub hl [0, 1, 3, 4, 5, 6] rfl)
          · ---- 11F 66F 71F
            refine lv_iconst (v := nI 1) hx hb d_MM_meets_74 (by decide) ?_
            refine lv_goto (tgt := 79) hx hb d_MM_meets_75 (by decide) ?_
            refine mt_ri (y := mt_b true) rfl ?_
            refine lv_istore (lv' := [(4, .int (mt_b true)), (6, .int (mt_b z6)), (5, .int (nI q)), (0, .ref (md 0)), (1, .int (nI i)), (2, .int (nI j)), (3, .int (nI 0))]) hx hb d_MM_meets_79 hl (by decide) rfl (fun ls hl => ?_)
            refine lv_iinc (k := 2) (v := nI (q + 1)) (lv' := [(5, .int (nI (q + 1))), (4, .int (mt_b true)), (6, .int (mt_b z6)), (0, .ref (md 0)), (1, .int (nI i)), (2, .int (nI j)), (3, .int (nI 0))]) hx hb d_MM_meets_81 hl rfl (by rw [lit1]; exact nI_1 _) (by decide) rfl (fun ls hl => ?_)
            refine lv_goto (tgt := 6) hx hb d_MM_meets_84 (by decide) ?_
            exact ih6 _ (by omega) true (q + 1) ls rfl (by omega) (mt_any_s (f := (fun x => mt_ms X 0 x && (x.testBit i && !x.testBit j))) hff hcut62 (by rw [hc66, hc71]; rfl)) (lv_sub hl [0, 1, 3, 4, 5, 6] rfl)
      refine lv_aload_n hx hb d_MM_meets_14 rfl (lv_at hl 2 rfl) ?_
      refine lv_iconst (v := nI 0) hx hb d_MM_meets_15 (by decide) ?_
      refine lv_iload hx hb d_MM_meets_16 (lv_at hl 0 rfl) ?_
      refine vp_callSi (va_runV (own := R_MM) (As := [.int (nI 0), .int (nI q)]) (rest := []) ⟨hx, hb, hml, hown, hts⟩ (c_MM_has (l := l) (g := g) (md := md) (J := J) (n := n) (v := v) (kn := kn) (pr := pr) (ar := ar) (X := X) (s0 := 0) (cc := 0) (i := q) (by omega) (by omega) (by omega)) (cwV 2 hts (gx_goodV wd_500 wd_502 ws_20 wd_7 wd_503) rfl rfl rfl (by decide +kernel) ⟨Nat.le_of_ble_eq_true rfl, Nat.le_of_ble_eq_true rfl⟩) (gc_preV (gc_recv hP hG (ci := 5) rfl (q0 := 0) rfl) hP hG) rfl rfl hl.1 rfl (lv_room (Nat.le_of_ble_eq_true rfl)) d_MM_meets_18 ⟨Nat.le_refl _, Nat.le_refl _⟩).run (fun r hr18 => ?_)
      subst hr18
      refine lv_if_eq (tgt := 61) hx hb d_MM_meets_21 (by decide) (mt_z fun hc21 => ?_) (mt_nz fun hc21 => ?_)
      · ---- 11F 21T
        refine lv_iconst (v := nI 0) hx hb d_MM_meets_61 (by decide) ?_
        exact ct62 false (by simp [hc21])
      · ---- 11F 21F
        refine lv_iload hx hb d_MM_meets_24 (lv_at hl 0 rfl) ?_
        refine lv_iload_n hx hb d_MM_meets_26 rfl (lv_at hl 3 rfl) ?_
        refine lv_ishr hx hb d_MM_meets_27 ?_
        refine lv_iconst (v := nI 1) hx hb d_MM_meets_28 (by decide) ?_
        refine lv_iand hx hb d_MM_meets_29 ?_
        refine mt_ri (y := mt_b (Nat.testBit q i)) (mt_bit1 (by omega) (by omega)) ?_
        refine lv_iconst (v := nI 1) hx hb d_MM_meets_30 (by decide) ?_
        refine lv_icmp_ne (tgt := 61) hx hb d_MM_meets_31 (by decide) (mt_nb1 fun hc31 => ?_) (mt_b1 fun hc31 => ?_)
        · ---- 11F 21F 31T
          refine lv_iconst (v := nI 0) hx hb d_MM_meets_61 (by decide) ?_
          exact ct62 false (by simp [hc21, hc31])
        · ---- 11F 21F 31F
          refine lv_iload_n hx hb d_MM_meets_34 rfl (lv_at hl 4 rfl) ?_
          refine lv_if_lt (tgt := 57) hx hb d_MM_meets_35 (by decide) (fun h9 => absurd h9 (nI_pos (by omega))) (fun _ => ?_)
          refine lv_iload hx hb d_MM_meets_38 (lv_at hl 0 rfl) ?_
          refine lv_iload_n hx hb d_MM_meets_40 rfl (lv_at hl 4 rfl) ?_
          refine lv_ishr hx hb d_MM_meets_41 ?_
          refine lv_iconst (v := nI 1) hx hb d_MM_meets_42 (by decide) ?_
          refine lv_iand hx hb d_MM_meets_43 ?_
          refine mt_ri (y := mt_b (Nat.testBit q j)) (mt_bit1 (by omega) (by omega)) ?_
          refine lv_iconst (v := nI 1) hx hb d_MM_meets_44 (by decide) ?_
          refine lv_icmp_ne (tgt := 52) hx hb d_MM_meets_45 (by decide) (mt_nb1 fun hc45 => ?_) (mt_b1 fun hc45 => ?_)
          · ---- 11F 21F 31F 45T
            refine lv_iconst (v := nI 0) hx hb d_MM_meets_52 (by decide) ?_
            refine lv_iload_n hx hb d_MM_meets_53 rfl (lv_at hl 5 rfl) ?_
            refine lv_icmp_ne (tgt := 61) hx hb d_MM_meets_54 (by decide) (fun h9 => absurd h9 (by decide)) (fun _ => ?_)
            refine lv_iconst (v := nI 1) hx hb d_MM_meets_57 (by decide) ?_
            refine lv_goto (tgt := 62) hx hb d_MM_meets_58 (by decide) ?_
            exact ct62 true (by simp [hc21, hc31, hc45])
          · ---- 11F 21F 31F 45F
            refine lv_iconst (v := nI 1) hx hb d_MM_meets_48 (by decide) ?_
            refine lv_goto (tgt := 53) hx hb d_MM_meets_49 (by decide) ?_
            refine lv_iload_n hx hb d_MM_meets_53 rfl (lv_at hl 5 rfl) ?_
            refine lv_icmp_ne (tgt := 61) hx hb d_MM_meets_54 (by decide) (fun _ => ?_) (fun h9 => absurd h9 (by decide))
            refine lv_iconst (v := nI 0) hx hb d_MM_meets_61 (by decide) ?_
            exact ct62 false (by simp [hc21, hc31, hc45])
  exact lp6 _ false 0 ls rfl (Nat.zero_le _) (⟨fun h9 => (by cases h9), fun ⟨x, h9, _⟩ => absurd h9 (by omega)⟩) (lv_sub hl [0, 1, 2, 3, 4, 5] rfl)

set_option maxHeartbeats 4000000 in
set_option maxRecDepth 100000 in
theorem c_MM_meets1 {g : gG} {md : Nat → Nat} {J : Nat → Nat → Int32} {n v kn pr ar : Nat} {X : Nat → Int64} {i j : Nat} {l : Launch} (hi9 : i ≤ 12) (hj9 : j ≤ 12) :
    gc_RO l y_MM_meets (gx_ws y_MM_meets b_MM_meets 7 (some .boolean)) 1 22 g [.ref (md 0), .int (nI i), .int (nI j), .int (nI 1)] (mW g md J n v kn pr ar X) (fun r => ∃ z, r = mt_b z ∧ (z = true ↔ ∃ x, x < 8192 ∧ (mt_ms X 0 x && (x.testBit i && x.testBit j)) = true)) := by
  refine gx_body (by decide) (Nat.le_of_ble_eq_true rfl) ?_
  intro p e s m below meth c ls hAt hB hl
  obtain ⟨hx, hb, hml, hown, hts, hr, hlk, hnm⟩ := hAt
  have hown : s.vm.findClass R_MM = some m.cls := hown
  obtain ⟨hP, hG⟩ := hB
  have hl : lv_has ls 7 [(0, .ref (md 0)), (1, .int (nI i)), (2, .int (nI j)), (3, .int (nI 1))] := hl
  refine lv_iconst (v := nI 0) hx hb d_MM_meets_0 (by decide) ?_
  refine lv_istore (lv' := [(4, .int (nI 0)), (0, .ref (md 0)), (1, .int (nI i)), (2, .int (nI j)), (3, .int (nI 1))]) hx hb d_MM_meets_1 hl (by decide) rfl (fun ls hl => ?_)
  refine lv_iconst (v := nI 0) hx hb d_MM_meets_3 (by decide) ?_
  refine lv_istore (lv' := [(5, .int (nI 0)), (4, .int (nI 0)), (0, .ref (md 0)), (1, .int (nI i)), (2, .int (nI j)), (3, .int (nI 1))]) hx hb d_MM_meets_4 hl (by decide) rfl (fun ls hl => ?_)
  have lp6 : ∀ (d : Nat) (ff : Bool) (q : Nat) (ls : Array Slot), d = 8192 - q → (q ≤ 8192) → (ff = true ↔ ∃ x, x < q ∧ (mt_ms X 0 x && (x.testBit i && x.testBit j)) = true) → lv_has ls 7 [(5, .int (nI q)), (4, .int (mt_b ff)), (0, .ref (md 0)), (1, .int (nI i)), (2, .int (nI j)), (3, .int (nI 1))] → W p l e (gx_rm 1 22) s m ([.ref (md 0), .int (nI i), .int (nI j), .int (nI 1)] : List Value).toArray below meth c s.heap [] 0 0 (MQ below (vp_Si (fun r => ∃ z, r = mt_b z ∧ (z = true ↔ ∃ x, x < 8192 ∧ (mt_ms X 0 x && (x.testBit i && x.testBit j)) = true))) ([.ref (md 0), .int (nI i), .int (nI j), .int (nI 1)] : List Value).toArray s 0 0 (fun _ => False)) (F0 m 6 ls []) := by
    intro d
    induction d using Nat.strongRecOn with
    | ind d ih6 =>
    intro ff q ls hd hq hff hl
    refine lv_iload hx hb d_MM_meets_6 (lv_at hl 0 rfl) ?_
    refine lv_sipush (v := nI 8192) hx hb d_MM_meets_8 (by decide) ?_
    refine lv_icmp_ge (tgt := 87) hx hb d_MM_meets_11 (by decide) (mt_le (by omega) (by omega) fun hc11 => ?_) (mt_nle (by omega) (by omega) fun hc11 => ?_)
    · ---- 11T
      refine lv_iload hx hb d_MM_meets_87 (lv_at hl 1 rfl) ?_
      exact gc_retz (v := ff) (post := fun r => ∃ z, r = mt_b z ∧ (z = true ↔ ∃ x, x < 8192 ∧ (mt_ms X 0 x && (x.testBit i && x.testBit j)) = true)) hx hb hr hlk (⟨ff, rfl, by rw [hff, show q = 8192 by omega]⟩) d_MM_meets_89
    · ---- 11F
      have ct62 : ∀ (z6 : Bool), z6 = (mt_ms X 0 q && (q.testBit i && q.testBit j)) → W p l e (gx_rm 1 22) s m ([.ref (md 0), .int (nI i), .int (nI j), .int (nI 1)] : List Value).toArray below meth c s.heap [] 0 0 (MQ below (vp_Si (fun r => ∃ z, r = mt_b z ∧ (z = true ↔ ∃ x, x < 8192 ∧ (mt_ms X 0 x && (x.testBit i && x.testBit j)) = true))) ([.ref (md 0), .int (nI i), .int (nI j), .int (nI 1)] : List Value).toArray s 0 0 (fun _ => False)) (F0 m 62 ls [.int (mt_b z6)]) := by
        intro z6 hcut62
        refine lv_istore (lv' := [(6, .int (mt_b z6)), (5, .int (nI q)), (4, .int (mt_b ff)), (0, .ref (md 0)), (1, .int (nI i)), (2, .int (nI j)), (3, .int (nI 1))]) hx hb d_MM_meets_62 hl (by decide) rfl (fun ls hl => ?_)
        refine lv_iload hx hb d_MM_meets_64 (lv_at hl 2 rfl) ?_
        refine lv_if_ne (tgt := 74) hx hb d_MM_meets_66 (by decide) (mt_nz fun hc66 => ?_) (mt_z fun hc66 => ?_)
        · ---- 11F 66T
          refine lv_iconst (v := nI 1) hx hb d_MM_meets_74 (by decide) ?_
          refine lv_goto (tgt := 79) hx hb d_MM_meets_75 (by decide) ?_
          refine mt_ri (y := mt_b true) rfl ?_
          refine lv_istore (lv' := [(4, .int (mt_b true)), (6, .int (mt_b z6)), (5, .int (nI q)), (0, .ref (md 0)), (1, .int (nI i)), (2, .int (nI j)), (3, .int (nI 1))]) hx hb d_MM_meets_79 hl (by decide) rfl (fun ls hl => ?_)
          refine lv_iinc (k := 2) (v := nI (q + 1)) (lv' := [(5, .int (nI (q + 1))), (4, .int (mt_b true)), (6, .int (mt_b z6)), (0, .ref (md 0)), (1, .int (nI i)), (2, .int (nI j)), (3, .int (nI 1))]) hx hb d_MM_meets_81 hl rfl (by rw [lit1]; exact nI_1 _) (by decide) rfl (fun ls hl => ?_)
          refine lv_goto (tgt := 6) hx hb d_MM_meets_84 (by decide) ?_
          exact ih6 _ (by omega) true (q + 1) ls rfl (by omega) (mt_any_s (f := (fun x => mt_ms X 0 x && (x.testBit i && x.testBit j))) hff hcut62 (by rw [hc66]; rfl)) (lv_sub hl [0, 1, 3, 4, 5, 6] rfl)
        · ---- 11F 66F
          refine lv_iload hx hb d_MM_meets_69 (lv_at hl 0 rfl) ?_
          refine lv_if_eq (tgt := 78) hx hb d_MM_meets_71 (by decide) (mt_z fun hc71 => ?_) (mt_nz fun hc71 => ?_)
          · ---- 11F 66F 71T
            refine lv_iconst (v := nI 0) hx hb d_MM_meets_78 (by decide) ?_
            refine mt_ri (y := mt_b false) rfl ?_
            refine lv_istore (lv' := [(4, .int (mt_b false)), (6, .int (mt_b z6)), (5, .int (nI q)), (0, .ref (md 0)), (1, .int (nI i)), (2, .int (nI j)), (3, .int (nI 1))]) hx hb d_MM_meets_79 hl (by decide) rfl (fun ls hl => ?_)
            refine lv_iinc (k := 2) (v := nI (q + 1)) (lv' := [(5, .int (nI (q + 1))), (4, .int (mt_b false)), (6, .int (mt_b z6)), (0, .ref (md 0)), (1, .int (nI i)), (2, .int (nI j)), (3, .int (nI 1))]) hx hb d_MM_meets_81 hl rfl (by rw [lit1]; exact nI_1 _) (by decide) rfl (fun ls hl => ?_)
            refine lv_goto (tgt := 6) hx hb d_MM_meets_84 (by decide) ?_
            exact ih6 _ (by omega) false (q + 1) ls rfl (by omega) (mt_any_s (f := (fun x => mt_ms X 0 x && (x.testBit i && x.testBit j))) hff hcut62 (by rw [hc66, hc71]; rfl)) (lv_sub hl [0, 1, 3, 4, 5, 6] rfl)
          · ---- 11F 66F 71F
            refine lv_iconst (v := nI 1) hx hb d_MM_meets_74 (by decide) ?_
            refine lv_goto (tgt := 79) hx hb d_MM_meets_75 (by decide) ?_
            refine mt_ri (y := mt_b true) rfl ?_
            refine lv_istore (lv' := [(4, .int (mt_b true)), (6, .int (mt_b z6)), (5, .int (nI q)), (0, .ref (md 0)), (1, .int (nI i)), (2, .int (nI j)), (3, .int (nI 1))]) hx hb d_MM_meets_79 hl (by decide) rfl (fun ls hl => ?_)
            refine lv_iinc (k := 2) (v := nI (q + 1)) (lv' := [(5, .int (nI (q + 1))), (4, .int (mt_b true)), (6, .int (mt_b z6)), (0, .ref (md 0)), (1, .int (nI i)), (2, .int (nI j)), (3, .int (nI 1))]) hx hb d_MM_meets_81 hl rfl (by rw [lit1]; exact nI_1 _) (by decide) rfl (fun ls hl => ?_)
            refine lv_goto (tgt := 6) hx hb d_MM_meets_84 (by decide) ?_
            exact ih6 _ (by omega) true (q + 1) ls rfl (by omega) (mt_any_s (f := (fun x => mt_ms X 0 x && (x.testBit i && x.testBit j))) hff hcut62 (by rw [hc66, hc71]; rfl)) (lv_sub hl [0, 1, 3, 4, 5, 6] rfl)
      refine lv_aload_n hx hb d_MM_meets_14 rfl (lv_at hl 2 rfl) ?_
      refine lv_iconst (v := nI 0) hx hb d_MM_meets_15 (by decide) ?_
      refine lv_iload hx hb d_MM_meets_16 (lv_at hl 0 rfl) ?_
      refine vp_callSi (va_runV (own := R_MM) (As := [.int (nI 0), .int (nI q)]) (rest := []) ⟨hx, hb, hml, hown, hts⟩ (c_MM_has (l := l) (g := g) (md := md) (J := J) (n := n) (v := v) (kn := kn) (pr := pr) (ar := ar) (X := X) (s0 := 0) (cc := 0) (i := q) (by omega) (by omega) (by omega)) (cwV 2 hts (gx_goodV wd_500 wd_502 ws_20 wd_7 wd_503) rfl rfl rfl (by decide +kernel) ⟨Nat.le_of_ble_eq_true rfl, Nat.le_of_ble_eq_true rfl⟩) (gc_preV (gc_recv hP hG (ci := 5) rfl (q0 := 0) rfl) hP hG) rfl rfl hl.1 rfl (lv_room (Nat.le_of_ble_eq_true rfl)) d_MM_meets_18 ⟨Nat.le_refl _, Nat.le_refl _⟩).run (fun r hr18 => ?_)
      subst hr18
      refine lv_if_eq (tgt := 61) hx hb d_MM_meets_21 (by decide) (mt_z fun hc21 => ?_) (mt_nz fun hc21 => ?_)
      · ---- 11F 21T
        refine lv_iconst (v := nI 0) hx hb d_MM_meets_61 (by decide) ?_
        exact ct62 false (by simp [hc21])
      · ---- 11F 21F
        refine lv_iload hx hb d_MM_meets_24 (lv_at hl 0 rfl) ?_
        refine lv_iload_n hx hb d_MM_meets_26 rfl (lv_at hl 3 rfl) ?_
        refine lv_ishr hx hb d_MM_meets_27 ?_
        refine lv_iconst (v := nI 1) hx hb d_MM_meets_28 (by decide) ?_
        refine lv_iand hx hb d_MM_meets_29 ?_
        refine mt_ri (y := mt_b (Nat.testBit q i)) (mt_bit1 (by omega) (by omega)) ?_
        refine lv_iconst (v := nI 1) hx hb d_MM_meets_30 (by decide) ?_
        refine lv_icmp_ne (tgt := 61) hx hb d_MM_meets_31 (by decide) (mt_nb1 fun hc31 => ?_) (mt_b1 fun hc31 => ?_)
        · ---- 11F 21F 31T
          refine lv_iconst (v := nI 0) hx hb d_MM_meets_61 (by decide) ?_
          exact ct62 false (by simp [hc21, hc31])
        · ---- 11F 21F 31F
          refine lv_iload_n hx hb d_MM_meets_34 rfl (lv_at hl 4 rfl) ?_
          refine lv_if_lt (tgt := 57) hx hb d_MM_meets_35 (by decide) (fun h9 => absurd h9 (nI_pos (by omega))) (fun _ => ?_)
          refine lv_iload hx hb d_MM_meets_38 (lv_at hl 0 rfl) ?_
          refine lv_iload_n hx hb d_MM_meets_40 rfl (lv_at hl 4 rfl) ?_
          refine lv_ishr hx hb d_MM_meets_41 ?_
          refine lv_iconst (v := nI 1) hx hb d_MM_meets_42 (by decide) ?_
          refine lv_iand hx hb d_MM_meets_43 ?_
          refine mt_ri (y := mt_b (Nat.testBit q j)) (mt_bit1 (by omega) (by omega)) ?_
          refine lv_iconst (v := nI 1) hx hb d_MM_meets_44 (by decide) ?_
          refine lv_icmp_ne (tgt := 52) hx hb d_MM_meets_45 (by decide) (mt_nb1 fun hc45 => ?_) (mt_b1 fun hc45 => ?_)
          · ---- 11F 21F 31F 45T
            refine lv_iconst (v := nI 0) hx hb d_MM_meets_52 (by decide) ?_
            refine lv_iload_n hx hb d_MM_meets_53 rfl (lv_at hl 5 rfl) ?_
            refine lv_icmp_ne (tgt := 61) hx hb d_MM_meets_54 (by decide) (fun _ => ?_) (fun h9 => absurd h9 (by decide))
            refine lv_iconst (v := nI 0) hx hb d_MM_meets_61 (by decide) ?_
            exact ct62 false (by simp [hc21, hc31, hc45])
          · ---- 11F 21F 31F 45F
            refine lv_iconst (v := nI 1) hx hb d_MM_meets_48 (by decide) ?_
            refine lv_goto (tgt := 53) hx hb d_MM_meets_49 (by decide) ?_
            refine lv_iload_n hx hb d_MM_meets_53 rfl (lv_at hl 5 rfl) ?_
            refine lv_icmp_ne (tgt := 61) hx hb d_MM_meets_54 (by decide) (fun h9 => absurd h9 (by decide)) (fun _ => ?_)
            refine lv_iconst (v := nI 1) hx hb d_MM_meets_57 (by decide) ?_
            refine lv_goto (tgt := 62) hx hb d_MM_meets_58 (by decide) ?_
            exact ct62 true (by simp [hc21, hc31, hc45])
  exact lp6 _ false 0 ls rfl (Nat.zero_le _) (⟨fun h9 => (by cases h9), fun ⟨x, h9, _⟩ => absurd h9 (by omega)⟩) (lv_sub hl [0, 1, 2, 3, 4, 5] rfl)

set_option maxHeartbeats 4000000 in
set_option maxRecDepth 100000 in
theorem c_MM_lies {g : gG} {md : Nat → Nat} {J : Nat → Nat → Int32} {n v kn pr ar : Nat} {X : Nat → Int64} {i j : Nat} {l : Launch} (hi9 : i ≤ 12) (hj9 : j ≤ 12) :
    gc_RO l y_MM_lies (gx_ws y_MM_lies b_MM_lies 3 (some .boolean)) 2 48 g [.ref (md 0), .int (nI i), .int (nI j)] (mW g md J n v kn pr ar X) (fun r => ∃ z, r = mt_b z ∧ (z = true ↔ ¬ ∃ x, x < 8192 ∧ (mt_ms X 0 x && (x.testBit i && !x.testBit j)) = true)) := by
  refine gx_body (by decide) (Nat.le_of_ble_eq_true rfl) ?_
  intro p e s m below meth c ls hAt hB hl
  obtain ⟨hx, hb, hml, hown, hts, hr, hlk, hnm⟩ := hAt
  have hown : s.vm.findClass R_MM = some m.cls := hown
  obtain ⟨hP, hG⟩ := hB
  have hl : lv_has ls 3 [(0, .ref (md 0)), (1, .int (nI i)), (2, .int (nI j))] := hl
  refine lv_aload_n hx hb d_MM_lies_0 rfl (lv_at hl 0 rfl) ?_
  refine lv_iload_n hx hb d_MM_lies_1 rfl (lv_at hl 1 rfl) ?_
  refine lv_iload_n hx hb d_MM_lies_2 rfl (lv_at hl 2 rfl) ?_
  refine lv_iconst (v := nI 0) hx hb d_MM_lies_3 (by decide) ?_
  refine vp_callSi (va_runV (own := R_MM) (As := [.int (nI i), .int (nI j), .int (nI 0)]) (rest := []) ⟨hx, hb, hml, hown, hts⟩ (c_MM_meets0 (l := l) (g := g) (md := md) (J := J) (n := n) (v := v) (kn := kn) (pr := pr) (ar := ar) (X := X) (i := i) (j := j) (by omega) (by omega)) (cwV 3 hts (gx_goodV wd_532 wd_534 ws_28 wd_7 wd_535) rfl rfl rfl (by decide +kernel) ⟨Nat.le_of_ble_eq_true rfl, Nat.le_of_ble_eq_true rfl⟩) (gc_preV (gc_recv hP hG (ci := 5) rfl (q0 := 0) rfl) hP hG) rfl rfl hl.1 rfl (lv_room (Nat.le_of_ble_eq_true rfl)) d_MM_lies_4 ⟨Nat.le_refl _, Nat.le_refl _⟩).run (fun r hr4 => ?_)
  obtain ⟨z4, hq4, hz4⟩ := hr4
  subst hq4
  refine lv_if_ne (tgt := 14) hx hb d_MM_lies_7 (by decide) (mt_nz fun hc7 => ?_) (mt_z fun hc7 => ?_)
  · ---- 7T
    refine lv_iconst (v := nI 0) hx hb d_MM_lies_14 (by decide) ?_
    exact gc_retz (v := false) (post := fun r => ∃ z, r = mt_b z ∧ (z = true ↔ ¬ ∃ x, x < 8192 ∧ (mt_ms X 0 x && (x.testBit i && !x.testBit j)) = true)) hx hb hr hlk (⟨false, rfl, (fun h => by cases h), (fun h => absurd (hz4.mp hc7) h)⟩) d_MM_lies_15
  · ---- 7F
    refine lv_iconst (v := nI 1) hx hb d_MM_lies_10 (by decide) ?_
    refine lv_goto (tgt := 15) hx hb d_MM_lies_11 (by decide) ?_
    exact gc_retz (v := true) (post := fun r => ∃ z, r = mt_b z ∧ (z = true ↔ ¬ ∃ x, x < 8192 ∧ (mt_ms X 0 x && (x.testBit i && !x.testBit j)) = true)) hx hb hr hlk (⟨true, rfl, (fun _ h => by have h9 := hz4.mpr h; rw [hc7] at h9; cases h9), (fun _ => rfl)⟩) d_MM_lies_15
