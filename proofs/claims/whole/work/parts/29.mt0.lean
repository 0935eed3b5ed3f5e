set_option maxHeartbeats 4000000 in
set_option maxRecDepth 100000 in
theorem c_MT_hasType {g : gG} {ad so sw : Nat → Nat} {I : Nat → Nat → Int32} {n v : Nat} {us : Nat → Nat} {ct : Nat → Nat → Int64} {x : Int32} {l : Launch} (hn : n ≤ 13) :
    gc_RO l y_MT_hasType (gx_ws y_MT_hasType b_MT_hasType 2 (some .boolean)) 0 0 g [.ref (ad 15), .int x] (cW g ad so sw I n v us ct) (fun r => ∃ z, r = mt_b z ∧ (z = true ↔ ∃ j, sp_is n x j)) := by
  refine gx_body (by decide) (Nat.le_of_ble_eq_true rfl) ?_
  intro p e s m below meth c ls hAt hB hl
  obtain ⟨hx, hb, hml, hown, hts, hr, hlk, hnm⟩ := hAt
  have hown : s.vm.findClass R_MT = some m.cls := hown
  obtain ⟨hP, hG⟩ := hB
  have hl : lv_has ls 2 [(0, .ref (ad 15)), (1, .int x)] := hl
  refine lv_iload_n hx hb d_MT_hasType_0 rfl (lv_at hl 1 rfl) ?_
  refine lv_if_lt (tgt := 22) hx hb d_MT_hasType_1 (by decide) (fun hc1 => ?_) (fun hc1 => ?_)
  · ---- 1T
    refine lv_iconst (v := nI 0) hx hb d_MT_hasType_22 (by decide) ?_
    exact gc_retz (v := false) (post := fun r => ∃ z, r = mt_b z ∧ (z = true ↔ ∃ j, sp_is n x j)) hx hb hr hlk (⟨false, rfl, (fun h => by cases h), (fun ⟨j, h1, h2⟩ => absurd hc1 (by rw [h2]; exact nI_pos (by omega)))⟩) d_MT_hasType_23
  · ---- 1F
    refine lv_iload_n hx hb d_MT_hasType_4 rfl (lv_at hl 1 rfl) ?_
    refine lv_aload_n hx hb d_MT_hasType_5 rfl (lv_at hl 0 rfl) ?_
    refine va_get (D := g.1) (own := R_MT) (ref := R_MT) (ci := 4) (v := .ref (ad 0)) (C := R_MT) (T := F_MT) (N := 2) hx hb hts in_MT hown hG.1 hP 15 rfl rfl 0 (by decide) (hts _ wd_147) (fun _ h9 => h9) rfl d_MT_hasType_6 ?_
    refine va_getN (D := g.1) (own := R_MT) (ref := R_MG) (ci := 2) (v := .ref (ad 1)) (C := R_MG) (T := F_MG) (N := 6) hx hb hts in_MG hown hG.1 hP 0 rfl rfl 0 (by decide) (va_Nw.use rfl (hG.2.1 _ nw_10)) (fun _ h9 => h9) rfl d_MT_hasType_9 ?_
    refine va_getN (D := g.1) (own := R_MT) (ref := R_TT) (ci := 1) (v := .int (nI n)) (C := R_TT) (T := F_TT) (N := 6) hx hb hts in_TT hown hG.1 hP 1 rfl rfl 5 (by decide) (va_Nw.use rfl (hG.2.1 _ nw_6)) (fun _ h9 => h9) rfl d_MT_hasType_12 ?_
    refine lv_icmp_ge (tgt := 22) hx hb d_MT_hasType_15 (by decide) (fun hc15 => ?_) (fun hc15 => ?_)
    · ---- 1F 15T
      refine lv_iconst (v := nI 0) hx hb d_MT_hasType_22 (by decide) ?_
      exact gc_retz (v := false) (post := fun r => ∃ z, r = mt_b z ∧ (z = true ↔ ∃ j, sp_is n x j)) hx hb hr hlk (⟨false, rfl, (fun h => by cases h), (fun ⟨j, h1, h2⟩ => absurd hc15 (by rw [h2]; exact nI_ge h1 (by omega)))⟩) d_MT_hasType_23
    · ---- 1F 15F
      refine lv_iconst (v := nI 1) hx hb d_MT_hasType_18 (by decide) ?_
      refine lv_goto (tgt := 23) hx hb d_MT_hasType_19 (by decide) ?_
      exact gc_retz (v := true) (post := fun r => ∃ z, r = mt_b z ∧ (z = true ↔ ∃ j, sp_is n x j)) hx hb hr hlk (⟨true, rfl, (fun _ => mt_has_t hc1 hc15), (fun _ => rfl)⟩) d_MT_hasType_23

set_option maxHeartbeats 4000000 in
set_option maxRecDepth 100000 in
theorem c_MT_isFull {g : gG} {ad so sw : Nat → Nat} {I : Nat → Nat → Int32} {n v : Nat} {us : Nat → Nat} {ct : Nat → Nat → Int64} {l : Launch} (hn : n ≤ 13) :
    gc_RO l y_MT_isFull (gx_ws y_MT_isFull b_MT_isFull 1 (some .boolean)) 0 0 g [.ref (ad 15)] (cW g ad so sw I n v us ct) (fun r => r = mt_b (decide (12 ≤ n))) := by
  refine gx_body (by decide) (Nat.le_of_ble_eq_true rfl) ?_
  intro p e s m below meth c ls hAt hB hl
  obtain ⟨hx, hb, hml, hown, hts, hr, hlk, hnm⟩ := hAt
  have hown : s.vm.findClass R_MT = some m.cls := hown
  obtain ⟨hP, hG⟩ := hB
  have hl : lv_has ls 1 [(0, .ref (ad 15))] := hl
  refine lv_aload_n hx hb d_MT_isFull_0 rfl (lv_at hl 0 rfl) ?_
  refine va_get (D := g.1) (own := R_MT) (ref := R_MT) (ci := 4) (v := .ref (ad 0)) (C := R_MT) (T := F_MT) (N := 2) hx hb hts in_MT hown hG.1 hP 15 rfl rfl 0 (by decide) (hts _ wd_147) (fun _ h9 => h9) rfl d_MT_isFull_1 ?_
  refine va_getN (D := g.1) (own := R_MT) (ref := R_MG) (ci := 2) (v := .ref (ad 1)) (C := R_MG) (T := F_MG) (N := 6) hx hb hts in_MG hown hG.1 hP 0 rfl rfl 0 (by decide) (va_Nw.use rfl (hG.2.1 _ nw_10)) (fun _ h9 => h9) rfl d_MT_isFull_4 ?_
  refine va_getN (D := g.1) (own := R_MT) (ref := R_TT) (ci := 1) (v := .int (nI n)) (C := R_TT) (T := F_TT) (N := 6) hx hb hts in_TT hown hG.1 hP 1 rfl rfl 5 (by decide) (va_Nw.use rfl (hG.2.1 _ nw_6)) (fun _ h9 => h9) rfl d_MT_isFull_7 ?_
  refine lv_bipush (v := nI 12) hx hb d_MT_isFull_10 (by decide) ?_
  refine lv_icmp_lt (tgt := 19) hx hb d_MT_isFull_12 (by decide) (mt_lt (by omega) (by omega) fun hc12 => ?_) (mt_nlt (by omega) (by omega) fun hc12 => ?_)
  · ---- 12T
    refine lv_iconst (v := nI 0) hx hb d_MT_isFull_19 (by decide) ?_
    exact gc_retz (v := false) (post := fun r => r = mt_b (decide (12 ≤ n))) hx hb hr hlk (by rw [decide_eq_false (by omega)]) d_MT_isFull_20
  · ---- 12F
    refine lv_iconst (v := nI 1) hx hb d_MT_isFull_15 (by decide) ?_
    refine lv_goto (tgt := 20) hx hb d_MT_isFull_16 (by decide) ?_
    exact gc_retz (v := true) (post := fun r => r = mt_b (decide (12 ≤ n))) hx hb hr hlk (by rw [decide_eq_true (by omega)]) d_MT_isFull_20

set_option maxHeartbeats 4000000 in
set_option maxRecDepth 100000 in
theorem c_MT_types {g : gG} {ad so sw : Nat → Nat} {I : Nat → Nat → Int32} {n v : Nat} {us : Nat → Nat} {ct : Nat → Nat → Int64} {l : Launch}  :
    gc_RO l y_MT_types (gx_ws y_MT_types b_MT_types 1 (some .int)) 0 0 g [.ref (ad 15)] (cW g ad so sw I n v us ct) (fun r => r = nI n) := by
  refine gx_body (by decide) (Nat.le_of_ble_eq_true rfl) ?_
  intro p e s m below meth c ls hAt hB hl
  obtain ⟨hx, hb, hml, hown, hts, hr, hlk, hnm⟩ := hAt
  have hown : s.vm.findClass R_MT = some m.cls := hown
  obtain ⟨hP, hG⟩ := hB
  have hl : lv_has ls 1 [(0, .ref (ad 15))] := hl
  refine lv_aload_n hx hb d_MT_types_0 rfl (lv_at hl 0 rfl) ?_
  refine va_get (D := g.1) (own := R_MT) (ref := R_MT) (ci := 4) (v := .ref (ad 0)) (C := R_MT) (T := F_MT) (N := 2) hx hb hts in_MT hown hG.1 hP 15 rfl rfl 0 (by decide) (hts _ wd_147) (fun _ h9 => h9) rfl d_MT_types_1 ?_
  refine va_getN (D := g.1) (own := R_MT) (ref := R_MG) (ci := 2) (v := .ref (ad 1)) (C := R_MG) (T := F_MG) (N := 6) hx hb hts in_MG hown hG.1 hP 0 rfl rfl 0 (by decide) (va_Nw.use rfl (hG.2.1 _ nw_10)) (fun _ h9 => h9) rfl d_MT_types_4 ?_
  refine va_getN (D := g.1) (own := R_MT) (ref := R_TT) (ci := 1) (v := .int (nI n)) (C := R_TT) (T := F_TT) (N := 6) hx hb hts in_TT hown hG.1 hP 1 rfl rfl 5 (by decide) (va_Nw.use rfl (hG.2.1 _ nw_6)) (fun _ h9 => h9) rfl d_MT_types_7 ?_
  exact gc_reti (post := fun r => r = nI n) hx hb hr hlk (rfl) d_MT_types_10
