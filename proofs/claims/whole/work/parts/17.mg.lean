set_option maxHeartbeats 4000000 in
set_option maxRecDepth 100000 in
theorem c_MG_someLiesIn {g : gG} {ad so sw : Nat → Nat} {I : Nat → Nat → Int32} {n v : Nat} {us : Nat → Nat} {ct : Nat → Nat → Int64} {ii oo : Nat} {l : Launch} (hn : n ≤ 13) (hun : us n = mt_wd n) (hii : ii < 8192) (hoo : oo < 8192) :
    gc_RO l y_MG_someLiesIn (gx_ws y_MG_someLiesIn b_MG_someLiesIn 5 (some .boolean)) 2 46 g [.ref (ad 0), .int (nI ii), .int (nI oo)] (cW g ad so sw I n v us ct) (fun r => ∃ z, r = mt_b z ∧ (z = true ↔ ∃ x, mt_el (us n) (ct n) x ∧ x &&& ii = ii ∧ x &&& oo = 0)) := by
  refine gx_body (by decide) (Nat.le_of_ble_eq_true rfl) ?_
  intro p e s m below meth c ls hAt hB hl
  obtain ⟨hx, hb, hml, hown, hts, hr, hlk, hnm⟩ := hAt
  have hown : s.vm.findClass R_MG = some m.cls := hown
  obtain ⟨hP, hG⟩ := hB
  have hl : lv_has ls 5 [(0, .ref (ad 0)), (1, .int (nI ii)), (2, .int (nI oo))] := hl
  have hwd := mt_wd_le hn
  refine lv_aload_n hx hb d_MG_someLiesIn_0 rfl (lv_at hl 0 rfl) ?_
  refine va_get (D := g.1) (own := R_MG) (ref := R_MG) (ci := 2) (v := .ref (ad 7)) (C := R_MG) (T := F_MG) (N := 6) hx hb hts in_MG hown hG.1 hP 0 rfl rfl 1 (by decide) (hts _ wd_94) (fun _ h9 => h9) rfl d_MG_someLiesIn_1 ?_
  refine lv_aload_n hx hb d_MG_someLiesIn_4 rfl (lv_at hl 0 rfl) ?_
  refine va_get (D := g.1) (own := R_MG) (ref := R_MG) (ci := 2) (v := .ref (ad 1)) (C := R_MG) (T := F_MG) (N := 6) hx hb hts in_MG hown hG.1 hP 0 rfl rfl 0 (by decide) (hts _ wd_91) (fun _ h9 => h9) rfl d_MG_someLiesIn_5 ?_
  refine va_getN (D := g.1) (own := R_MG) (ref := R_TT) (ci := 1) (v := .int (nI n)) (C := R_TT) (T := F_TT) (N := 6) hx hb hts in_TT hown hG.1 hP 1 rfl rfl 5 (by decide) (va_Nw.use rfl (hG.2.1 _ nw_4)) (fun _ h9 => h9) rfl d_MG_someLiesIn_8 ?_
  refine va_aldq hx hb hG.1 hP 7 3 rfl rfl (vp_in_nI (by omega) (by decide)) d_MG_someLiesIn_11 ?_
  refine mt_rv (w := .ref (so n)) (by rw [nI_clamp (by omega)]; rfl) ?_
  refine lv_astore_n (lv' := [(3, .ref (so n)), (0, .ref (ad 0)), (1, .int (nI ii)), (2, .int (nI oo))]) hx hb d_MG_someLiesIn_12 rfl hl (by decide) rfl (fun ls hl => ?_)
  refine lv_aload_n hx hb d_MG_someLiesIn_13 rfl (lv_at hl 0 rfl) ?_
  refine lv_iconst (v := nI 0) hx hb d_MG_someLiesIn_14 (by decide) ?_
  refine vp_callSi (va_runV (own := R_MG) (As := [.int (nI 0)]) (rest := []) ⟨hx, hb, hml, hown, hts⟩ (c_PS_nextFrom (l := l) (g := g) (o := so n) (w := sw n) (cp := mt_cp n) (u := us n) (f := ct n) (i := 0) (by omega) (by rw [hun, mt_cpr (by omega)]; exact Nat.le_refl _) (mt_cp_le _)) (cwV 1 hts (gx_goodV wd_200 wd_201 wd_202 wd_4 wd_203) rfl rfl rfl (by decide +kernel) ⟨Nat.le_of_ble_eq_true rfl, Nat.le_of_ble_eq_true rfl⟩) (gc_preV (gc_recv hP hG (ci := 0) rfl (cw_oE (k := n) (u := us n) (by omega) rfl)) (cw_pickE hP (by omega) rfl rfl) hG) rfl rfl hl.1 rfl (lv_room (Nat.le_of_ble_eq_true rfl)) d_MG_someLiesIn_15 ⟨Nat.le_refl _, Nat.le_refl _⟩).run (fun r hr15 => ?_)
  obtain ⟨q15, hq15, hn15⟩ := hr15
  subst hq15
  have hcu15 := mt_nx_cu hn15
  refine lv_istore (lv' := [(4, .int (nI q15)), (3, .ref (so n)), (0, .ref (ad 0)), (1, .int (nI ii)), (2, .int (nI oo))]) hx hb d_MG_someLiesIn_18 hl (by decide) rfl (fun ls hl => ?_)
  have lp20 : ∀ (d : Nat) (q : Nat) (ls : Array Slot), d = 64 * us n - q → (q ≤ 64 * us n) → (q < 64 * us n → mt_el (us n) (ct n) q) → (∀ x, x < q → mt_el (us n) (ct n) x → ¬ (x &&& ii = ii ∧ x &&& oo = 0)) → lv_has ls 5 [(4, .int (nI q)), (3, .ref (so n)), (0, .ref (ad 0)), (1, .int (nI ii)), (2, .int (nI oo))] → W p l e (gx_rm 2 46) s m ([.ref (ad 0), .int (nI ii), .int (nI oo)] : List Value).toArray below meth c s.heap [] 0 0 (MQ below (vp_Si (fun r => ∃ z, r = mt_b z ∧ (z = true ↔ ∃ x, mt_el (us n) (ct n) x ∧ x &&& ii = ii ∧ x &&& oo = 0))) ([.ref (ad 0), .int (nI ii), .int (nI oo)] : List Value).toArray s 0 0 (fun _ => False)) (F0 m 20 ls []) := by
    intro d
    induction d using Nat.strongRecOn with
    | ind d ih20 =>
    intro q ls hd hq hqS hno hl
    refine lv_iload hx hb d_MG_someLiesIn_20 (lv_at hl 0 rfl) ?_
    refine lv_aload_n hx hb d_MG_someLiesIn_22 rfl (lv_at hl 1 rfl) ?_
    refine va_getN (D := g.1) (own := R_MG) (ref := R_PS) (ci := 0) (v := .int (nI (64 * (us n)))) (C := R_PS) (T := F_PS) (N := 3) hx hb hts in_PS hown hG.1 hP _ (cw_oE (k := n) (u := us n) (by omega) rfl) rfl 2 (by decide) (va_Nw.use rfl (hG.2.1 _ nw_7)) (fun _ h9 => h9) rfl d_MG_someLiesIn_23 ?_
    refine lv_icmp_ge (tgt := 59) hx hb d_MG_someLiesIn_26 (by decide) (mt_le (by omega) (by omega) fun hc26 => ?_) (mt_nle (by omega) (by omega) fun hc26 => ?_)
    · ---- 26T
      refine lv_iconst (v := nI 0) hx hb d_MG_someLiesIn_59 (by decide) ?_
      exact gc_retz (v := false) (post := fun r => ∃ z, r = mt_b z ∧ (z = true ↔ ∃ x, mt_el (us n) (ct n) x ∧ x &&& ii = ii ∧ x &&& oo = 0)) hx hb hr hlk (⟨false, rfl, (fun h => by cases h), (fun h => by obtain ⟨x, h1, h2⟩ := h; exact absurd h2 (hno x (by have := h1.1; omega) h1))⟩) d_MG_someLiesIn_60
    · ---- 26F
      refine lv_iload hx hb d_MG_someLiesIn_29 (lv_at hl 0 rfl) ?_
      refine lv_iload_n hx hb d_MG_someLiesIn_31 rfl (lv_at hl 3 rfl) ?_
      refine lv_iand hx hb d_MG_someLiesIn_32 ?_
      refine mt_ri (y := nI (q &&& ii)) (mt_and _ _) ?_
      refine lv_iload_n hx hb d_MG_someLiesIn_33 rfl (lv_at hl 3 rfl) ?_
      refine lv_icmp_ne (tgt := 46) hx hb d_MG_someLiesIn_34 (by decide) (mt_ne (by have := Nat.and_le_left (n := q) (m := ii); omega) (by omega) fun hc34 => ?_) (mt_eq (by have := Nat.and_le_left (n := q) (m := ii); omega) (by omega) fun hc34 => ?_)
      · ---- 26F 34T
        refine lv_aload_n hx hb d_MG_someLiesIn_46 rfl (lv_at hl 1 rfl) ?_
        refine lv_iload hx hb d_MG_someLiesIn_47 (lv_at hl 0 rfl) ?_
        refine lv_iconst (v := nI 1) hx hb d_MG_someLiesIn_49 (by decide) ?_
        refine lv_iadd hx hb d_MG_someLiesIn_50 ?_
        refine mt_ri (y := nI (q + 1)) (nI_add _ _) ?_
        refine vp_callSi (va_runV (own := R_MG) (As := [.int (nI (q + 1))]) (rest := []) ⟨hx, hb, hml, hown, hts⟩ (c_PS_nextFrom (l := l) (g := g) (o := so n) (w := sw n) (cp := mt_cp n) (u := us n) (f := ct n) (i := q + 1) (by omega) (by rw [hun, mt_cpr (by omega)]; exact Nat.le_refl _) (mt_cp_le _)) (cwV 1 hts (gx_goodV wd_200 wd_201 wd_202 wd_4 wd_203) rfl rfl rfl (by decide +kernel) ⟨Nat.le_of_ble_eq_true rfl, Nat.le_of_ble_eq_true rfl⟩) (gc_preV (gc_recv hP hG (ci := 0) rfl (cw_oE (k := n) (u := us n) (by omega) rfl)) (cw_pickE hP (by omega) rfl rfl) hG) rfl rfl hl.1 rfl (lv_room (Nat.le_of_ble_eq_true rfl)) d_MG_someLiesIn_51 ⟨Nat.le_refl _, Nat.le_refl _⟩).run (fun r hr51 => ?_)
        obtain ⟨q51, hq51, hn51⟩ := hr51
        subst hq51
        have hcu51 := mt_nx_cu hn51
        refine lv_istore (lv' := [(4, .int (nI q51)), (3, .ref (so n)), (0, .ref (ad 0)), (1, .int (nI ii)), (2, .int (nI oo))]) hx hb d_MG_someLiesIn_54 hl (by decide) rfl (fun ls hl => ?_)
        refine lv_goto (tgt := 20) hx hb d_MG_someLiesIn_56 (by decide) ?_
        exact ih20 _ (by have := hn51.1; omega) q51 ls rfl (hcu51.1) (hcu51.2) (fun x h1 h2 => (((mt_nx_s hn51 (hqS (by omega)) x).mp ⟨h1, h2⟩).elim (fun h3 => hno x h3.1 h3.2) (fun h3 h4 => hc34 (h3 ▸ h4.1)))) (lv_sub hl [0, 1, 2, 3, 4] rfl)
      · ---- 26F 34F
        refine lv_iload hx hb d_MG_someLiesIn_37 (lv_at hl 0 rfl) ?_
        refine lv_iload_n hx hb d_MG_someLiesIn_39 rfl (lv_at hl 4 rfl) ?_
        refine lv_iand hx hb d_MG_someLiesIn_40 ?_
        refine mt_ri (y := nI (q &&& oo)) (mt_and _ _) ?_
        refine lv_if_ne (tgt := 46) hx hb d_MG_someLiesIn_41 (by decide) (mt_ne (b := 0) (by have := Nat.and_le_left (n := q) (m := oo); omega) (by decide) fun hc41 => ?_) (mt_eq (b := 0) (by have := Nat.and_le_left (n := q) (m := oo); omega) (by decide) fun hc41 => ?_)
        · ---- 26F 34F 41T
          refine lv_aload_n hx hb d_MG_someLiesIn_46 rfl (lv_at hl 1 rfl) ?_
          refine lv_iload hx hb d_MG_someLiesIn_47 (lv_at hl 0 rfl) ?_
          refine lv_iconst (v := nI 1) hx hb d_MG_someLiesIn_49 (by decide) ?_
          refine lv_iadd hx hb d_MG_someLiesIn_50 ?_
          refine mt_ri (y := nI (q + 1)) (nI_add _ _) ?_
          refine vp_callSi (va_runV (own := R_MG) (As := [.int (nI (q + 1))]) (rest := []) ⟨hx, hb, hml, hown, hts⟩ (c_PS_nextFrom (l := l) (g := g) (o := so n) (w := sw n) (cp := mt_cp n) (u := us n) (f := ct n) (i := q + 1) (by omega) (by rw [hun, mt_cpr (by omega)]; exact Nat.le_refl _) (mt_cp_le _)) (cwV 1 hts (gx_goodV wd_200 wd_201 wd_202 wd_4 wd_203) rfl rfl rfl (by decide +kernel) ⟨Nat.le_of_ble_eq_true rfl, Nat.le_of_ble_eq_true rfl⟩) (gc_preV (gc_recv hP hG (ci := 0) rfl (cw_oE (k := n) (u := us n) (by omega) rfl)) (cw_pickE hP (by omega) rfl rfl) hG) rfl rfl hl.1 rfl (lv_room (Nat.le_of_ble_eq_true rfl)) d_MG_someLiesIn_51 ⟨Nat.le_refl _, Nat.le_refl _⟩).run (fun r hr51 => ?_)
          obtain ⟨q51, hq51, hn51⟩ := hr51
          subst hq51
          have hcu51 := mt_nx_cu hn51
          refine lv_istore (lv' := [(4, .int (nI q51)), (3, .ref (so n)), (0, .ref (ad 0)), (1, .int (nI ii)), (2, .int (nI oo))]) hx hb d_MG_someLiesIn_54 hl (by decide) rfl (fun ls hl => ?_)
          refine lv_goto (tgt := 20) hx hb d_MG_someLiesIn_56 (by decide) ?_
          exact ih20 _ (by have := hn51.1; omega) q51 ls rfl (hcu51.1) (hcu51.2) (fun x h1 h2 => (((mt_nx_s hn51 (hqS (by omega)) x).mp ⟨h1, h2⟩).elim (fun h3 => hno x h3.1 h3.2) (fun h3 h4 => hc41 (h3 ▸ h4.2)))) (lv_sub hl [0, 1, 2, 3, 4] rfl)
        · ---- 26F 34F 41F
          refine lv_iconst (v := nI 1) hx hb d_MG_someLiesIn_44 (by decide) ?_
          exact gc_retz (v := true) (post := fun r => ∃ z, r = mt_b z ∧ (z = true ↔ ∃ x, mt_el (us n) (ct n) x ∧ x &&& ii = ii ∧ x &&& oo = 0)) hx hb hr hlk (⟨true, rfl, (fun _ => ⟨q, hqS (by omega), hc34, hc41⟩), (fun _ => rfl)⟩) d_MG_someLiesIn_45
  exact lp20 _ q15 ls rfl (hcu15.1) (hcu15.2) (fun x h1 h2 => absurd ⟨h1, h2⟩ (mt_nx_0 hn15 x)) (lv_sub hl [0, 1, 2, 3, 4] rfl)

set_option maxHeartbeats 4000000 in
set_option maxRecDepth 100000 in
theorem c_MG_liesIn {g : gG} {ad so sw : Nat → Nat} {I : Nat → Nat → Int32} {n v : Nat} {us : Nat → Nat} {ct : Nat → Nat → Int64} {x y : Nat} {l : Launch} (hn : n ≤ 13) (hun : us n = mt_wd n) (hx13 : x < 13) (hy13 : y < 13) :
    gc_RO l y_MG_liesIn (gx_ws y_MG_liesIn b_MG_liesIn 3 (some .boolean)) 3 70 g [.ref (ad 0), .int (nI x), .int (nI y)] (cW g ad so sw I n v us ct) (fun r => ∃ z, r = mt_b z ∧ (z = true ↔ ∀ q, mt_el (us n) (ct n) q → q.testBit x = true → q.testBit y = true)) := by
  refine gx_body (by decide) (Nat.le_of_ble_eq_true rfl) ?_
  intro p e s m below meth c ls hAt hB hl
  obtain ⟨hx, hb, hml, hown, hts, hr, hlk, hnm⟩ := hAt
  have hown : s.vm.findClass R_MG = some m.cls := hown
  obtain ⟨hP, hG⟩ := hB
  have hl : lv_has ls 3 [(0, .ref (ad 0)), (1, .int (nI x)), (2, .int (nI y))] := hl
  have hx2 : 2 ^ x ≤ 4096 := Nat.pow_le_pow_right (n := 2) (i := x) (j := 12) (by decide) (by omega)
  have hy2 : 2 ^ y ≤ 4096 := Nat.pow_le_pow_right (n := 2) (i := y) (j := 12) (by decide) (by omega)
  refine lv_aload_n hx hb d_MG_liesIn_0 rfl (lv_at hl 0 rfl) ?_
  refine lv_iconst (v := nI 1) hx hb d_MG_liesIn_1 (by decide) ?_
  refine lv_iload_n hx hb d_MG_liesIn_2 rfl (lv_at hl 1 rfl) ?_
  refine lv_ishl hx hb d_MG_liesIn_3 ?_
  refine mt_ri (y := nI (2 ^ x)) (mt_shl (by omega)) ?_
  refine lv_iconst (v := nI 1) hx hb d_MG_liesIn_4 (by decide) ?_
  refine lv_iload_n hx hb d_MG_liesIn_5 rfl (lv_at hl 2 rfl) ?_
  refine lv_ishl hx hb d_MG_liesIn_6 ?_
  refine mt_ri (y := nI (2 ^ y)) (mt_shl (by omega)) ?_
  refine vp_callSi (va_runV (own := R_MG) (As := [.int (nI (2 ^ x)), .int (nI (2 ^ y))]) (rest := []) ⟨hx, hb, hml, hown, hts⟩ (c_MG_someLiesIn (l := l) (g := g) (ad := ad) (so := so) (sw := sw) (I := I) (n := n) (v := v) (us := us) (ct := ct) (ii := 2 ^ x) (oo := 2 ^ y) (by omega) (by exact hun) (by omega) (by omega)) (cwV 2 hts (gx_goodV wd_297 wd_286 wd_287 wd_2 wd_288) rfl rfl rfl (by decide +kernel) ⟨Nat.le_of_ble_eq_true rfl, Nat.le_of_ble_eq_true rfl⟩) (gc_preV (gc_recv hP hG (ci := 2) rfl (q0 := 0) rfl) hP hG) rfl rfl hl.1 rfl (lv_room (Nat.le_of_ble_eq_true rfl)) d_MG_liesIn_7 ⟨Nat.le_refl _, Nat.le_refl _⟩).run (fun r hr7 => ?_)
  obtain ⟨z7, hq7, hz7⟩ := hr7
  subst hq7
  refine lv_if_ne (tgt := 17) hx hb d_MG_liesIn_10 (by decide) (mt_nz fun hc10 => ?_) (mt_z fun hc10 => ?_)
  · ---- 10T
    refine lv_iconst (v := nI 0) hx hb d_MG_liesIn_17 (by decide) ?_
    exact gc_retz (v := false) (post := fun r => ∃ z, r = mt_b z ∧ (z = true ↔ ∀ q, mt_el (us n) (ct n) q → q.testBit x = true → q.testBit y = true)) hx hb hr hlk (⟨false, rfl, (fun h => by cases h), (fun h => absurd (hz7.mp hc10) (fun ⟨q, h1, h2, h3⟩ => mt_notb h3 (h q h1 (mt_hasb h2))))⟩) d_MG_liesIn_18
  · ---- 10F
    refine lv_iconst (v := nI 1) hx hb d_MG_liesIn_13 (by decide) ?_
    refine lv_goto (tgt := 18) hx hb d_MG_liesIn_14 (by decide) ?_
    exact gc_retz (v := true) (post := fun r => ∃ z, r = mt_b z ∧ (z = true ↔ ∀ q, mt_el (us n) (ct n) q → q.testBit x = true → q.testBit y = true)) hx hb hr hlk (⟨true, rfl, (fun _ q h1 h2 => mt_byb (fun h3 => by have := hz7.mpr ⟨q, h1, mt_bhas h2, h3⟩; rw [hc10] at this; cases this)), (fun _ => rfl)⟩) d_MG_liesIn_18

set_option maxHeartbeats 4000000 in
set_option maxRecDepth 100000 in
theorem c_MG_crossStartsWithEnds {g : gG} {ad so sw : Nat → Nat} {I : Nat → Nat → Int32} {n v : Nat} {us : Nat → Nat} {ct : Nat → Nat → Int64} {l : Launch} (hn : n ≤ 13) (hu14 : us 14 = mt_wd n) (hu15 : us 15 = mt_wd n) :
    gc_RV (S := Nat → Int64) l y_MG_crossStartsWithEnds (gx_ws y_MG_crossStartsWithEnds b_MG_crossStartsWithEnds 3 none) 2 46 g [.ref (ad 0)] (cW g ad so sw I n v us ct) (fun u1 => cW g ad so sw I n v (va_up us 16 (mt_wd n)) (va_up ct 16 u1)) (fun u1 => ∀ z, mt_el (mt_wd n) u1 z ↔ ∃ x y, mt_el (us 14) (ct 14) x ∧ mt_el (us 15) (ct 15) y ∧ z = x &&& y) := by
  refine gx_body (by decide) (Nat.le_of_ble_eq_true rfl) ?_
  intro p e s m below meth c ls hAt hB hl
  obtain ⟨hx, hb, hml, hown, hts, hr, hlk, hnm⟩ := hAt
  have hown : s.vm.findClass R_MG = some m.cls := hown
  obtain ⟨⟨hP, hG⟩, hD0⟩ := hB
  have hD := gx_D.self hD0
  have hS : va_S (gx_in (cW g ad so sw I n v us ct)) s.heap s.heap [] := va_S.rf
  have hl : lv_has ls 3 [(0, .ref (ad 0))] := hl
  have hwd := mt_wd_le hn
  refine lv_aload_n hx hb d_MG_crossStartsWithEnds_0 rfl (lv_at hl 0 rfl) ?_
  refine va_get (D := g.1) (own := R_MG) (ref := R_MG) (ci := 2) (v := .ref (so 16)) (C := R_MG) (T := F_MG) (N := 6) hx hb hts in_MG hown hG.1 hP 0 rfl rfl 4 (by decide) (hts _ wd_97) (fun _ h9 => h9) rfl d_MG_crossStartsWithEnds_1 ?_
  refine lv_aload_n hx hb d_MG_crossStartsWithEnds_4 rfl (lv_at hl 0 rfl) ?_
  refine va_get (D := g.1) (own := R_MG) (ref := R_MG) (ci := 2) (v := .ref (ad 1)) (C := R_MG) (T := F_MG) (N := 6) hx hb hts in_MG hown hG.1 hP 0 rfl rfl 0 (by decide) (hts _ wd_91) (fun _ h9 => h9) rfl d_MG_crossStartsWithEnds_5 ?_
  refine va_getN (D := g.1) (own := R_MG) (ref := R_TT) (ci := 1) (v := .int (nI n)) (C := R_TT) (T := F_TT) (N := 6) hx hb hts in_TT hown hG.1 hP 1 rfl rfl 5 (by decide) (va_Nw.use rfl (hG.2.1 _ nw_4)) (fun _ h9 => h9) rfl d_MG_crossStartsWithEnds_8 ?_
  refine gc_cresE (u := us 16) (f := ct 16) (w1 := mt_wd n) (by decide) rfl rfl (va_runV (own := R_MG) (As := [.int (nI n)]) (rest := []) ⟨hx, hb, hml, hown, hts⟩ (c_PS_restart (l := l) (g := g) (o := so 16) (w := sw 16) (cp := mt_cp 16) (u := us 16) (f := ct 16) (b := n) (by omega) (by exact mt_cp13 (by decide) (by decide) hn) (mt_cp_le _)) (cwV 1 hts (gx_goodV wd_80 wd_81 wd_82 wd_4 wd_83) rfl rfl rfl (by decide +kernel) ⟨Nat.le_of_ble_eq_true rfl, Nat.le_of_ble_eq_true rfl⟩) (gc_preVW (gc_recv hP hG (ci := 0) rfl (cw_oE (k := 16) (u := us 16) (by decide) rfl)) (cw_pickE hP (by decide) rfl rfl) hG (cw_pickDE hD (by decide) rfl rfl)) rfl rfl hl.1 rfl (lv_room (Nat.le_of_ble_eq_true rfl)) d_MG_crossStartsWithEnds_11 ⟨Nat.le_refl _, Nat.le_refl _⟩) hP hD hS (fun f11 H locs hf11 hP hD hS => ?_)
  have hP : va_P g.1 gx_cl (cW g ad so sw I n v (va_up us 16 (mt_wd n)) (va_up ct 16 f11)) H := hP
  have hD : va_D (gx_in (cW g ad so sw I n v us ct)) (cW g ad so sw I n v (va_up us 16 (mt_wd n)) (va_up ct 16 f11)) := hD
  refine lv_aload_n hx hb d_MG_crossStartsWithEnds_14 rfl (lv_at hl 0 rfl) ?_
  refine va_get (D := g.1) (own := R_MG) (ref := R_MG) (ci := 2) (v := .ref (so 14)) (C := R_MG) (T := F_MG) (N := 6) hx hb hts in_MG hown hG.1 hP 0 rfl rfl 2 (by decide) (hts _ wd_95) (fun _ h9 => h9) rfl d_MG_crossStartsWithEnds_15 ?_
  refine lv_iconst (v := nI 0) hx hb d_MG_crossStartsWithEnds_18 (by decide) ?_
  refine vp_callSi (va_runV (own := R_MG) (As := [.int (nI 0)]) (rest := []) ⟨hx, hb, hml, hown, hts⟩ (c_PS_nextFrom (l := l) (g := g) (o := so 14) (w := sw 14) (cp := mt_cp 14) (u := us 14) (f := ct 14) (i := 0) (by omega) (by first | omega | (rw [hu14]; exact mt_cp13 (by decide) (by decide) hn) | exact mt_cp13 (by decide) (by decide) hn) (mt_cp_le _)) (cwV 1 hts (gx_goodV wd_200 wd_201 wd_202 wd_4 wd_203) rfl rfl rfl (by decide +kernel) ⟨Nat.le_of_ble_eq_true rfl, Nat.le_of_ble_eq_true rfl⟩) (gc_preV (gc_recv hP hG (ci := 0) rfl (cw_oE (k := 14) (u := us 14) (by decide) (va_up_ne _ _ (by decide)))) (cw_pickE hP (by decide) (va_up_ne _ _ (by decide)) (va_up_ne _ _ (by decide))) hG) rfl rfl hl.1 rfl (lv_room (Nat.le_of_ble_eq_true rfl)) d_MG_crossStartsWithEnds_19 ⟨Nat.le_refl _, Nat.le_refl _⟩).run (fun r hr19 => ?_)
  obtain ⟨q19, hq19, hn19⟩ := hr19
  subst hq19
  have hcu19 := mt_nx_cu hn19
  refine lv_istore_n (lv' := [(1, .int (nI q19)), (0, .ref (ad 0))]) hx hb d_MG_crossStartsWithEnds_22 rfl hl (by decide) rfl (fun ls hl => ?_)
  have lp23 : ∀ (d : Nat) (q : Nat) (f : Nat → Int64) (ls : Array Slot) (H : Heap) (locs : List Loc), d = 64 * us 14 - q → (q ≤ 64 * us 14) → (q < 64 * us 14 → mt_el (us 14) (ct 14) q) → (mt_mp (mt_el (us 14) (ct 14)) (fun x z => ∃ y, mt_el (us 15) (ct 15) y ∧ z = x &&& y) (fun _ => False) q (mt_el (mt_wd n) f)) → lv_has ls 3 [(1, .int (nI q)), (0, .ref (ad 0))] → va_P g.1 gx_cl (cW g ad so sw I n v (va_up us 16 (mt_wd n)) (va_up ct 16 f)) H → va_D (gx_in (cW g ad so sw I n v us ct)) (cW g ad so sw I n v (va_up us 16 (mt_wd n)) (va_up ct 16 f)) → va_S (gx_in (cW g ad so sw I n v us ct)) s.heap H locs → W p l e (gx_rm 2 46) s m ([.ref (ad 0)] : List Value).toArray below meth c H locs 0 0 (MQ below (va_Qv (fun u1 => ∀ z, mt_el (mt_wd n) u1 z ↔ ∃ x y, mt_el (us 14) (ct 14) x ∧ mt_el (us 15) (ct 15) y ∧ z = x &&& y) (fun u9 t9 => va_P g.1 gx_cl ((fun u1 => cW g ad so sw I n v (va_up us 16 (mt_wd n)) (va_up ct 16 u1)) u9) t9.heap ∧ va_D (gx_in (cW g ad so sw I n v us ct)) ((fun u1 => cW g ad so sw I n v (va_up us 16 (mt_wd n)) (va_up ct 16 u1)) u9)) (gx_in (cW g ad so sw I n v us ct))) ([.ref (ad 0)] : List Value).toArray s 0 0 (gx_in (cW g ad so sw I n v us ct))) (F0 m 23 ls []) := by
    intro d
    induction d using Nat.strongRecOn with
    | ind d ih23 =>
    intro q f ls H locs hd hq hqS hm hl hP hD hS
    refine lv_iload_n hx hb d_MG_crossStartsWithEnds_23 rfl (lv_at hl 0 rfl) ?_
    refine lv_aload_n hx hb d_MG_crossStartsWithEnds_24 rfl (lv_at hl 1 rfl) ?_
    refine va_get (D := g.1) (own := R_MG) (ref := R_MG) (ci := 2) (v := .ref (so 14)) (C := R_MG) (T := F_MG) (N := 6) hx hb hts in_MG hown hG.1 hP 0 rfl rfl 2 (by decide) (hts _ wd_95) (fun _ h9 => h9) rfl d_MG_crossStartsWithEnds_25 ?_
    refine va_getN (D := g.1) (own := R_MG) (ref := R_PS) (ci := 0) (v := .int (nI (64 * (us 14)))) (C := R_PS) (T := F_PS) (N := 3) hx hb hts in_PS hown hG.1 hP _ (cw_oE (k := 14) (u := us 14) (by decide) (va_up_ne _ _ (by decide))) rfl 2 (by decide) (va_Nw.use rfl (hG.2.1 _ nw_7)) (fun _ h9 => h9) rfl d_MG_crossStartsWithEnds_28 ?_
    refine lv_icmp_ge (tgt := 92) hx hb d_MG_crossStartsWithEnds_31 (by decide) (mt_le (by omega) (by omega) fun hc31 => ?_) (mt_nle (by omega) (by omega) fun hc31 => ?_)
    · ---- 31T
      exact gc_retv (u := (f)) (Wf := fun u1 => cW g ad so sw I n v (va_up us 16 (mt_wd n)) (va_up ct 16 u1)) (post := fun u1 => ∀ z, mt_el (mt_wd n) u1 z ↔ ∃ x y, mt_el (us 14) (ct 14) x ∧ mt_el (us 15) (ct 15) y ∧ z = x &&& y) hx hb hr hlk (mt_cross (mt_mp_e hm (by omega))) hP hD hS d_MG_crossStartsWithEnds_92
    · ---- 31F
      refine lv_aload_n hx hb d_MG_crossStartsWithEnds_34 rfl (lv_at hl 1 rfl) ?_
      refine va_get (D := g.1) (own := R_MG) (ref := R_MG) (ci := 2) (v := .ref (so 15)) (C := R_MG) (T := F_MG) (N := 6) hx hb hts in_MG hown hG.1 hP 0 rfl rfl 3 (by decide) (hts _ wd_96) (fun _ h9 => h9) rfl d_MG_crossStartsWithEnds_35 ?_
      refine lv_iconst (v := nI 0) hx hb d_MG_crossStartsWithEnds_38 (by decide) ?_
      refine vp_callSi (va_runV (own := R_MG) (As := [.int (nI 0)]) (rest := []) ⟨hx, hb, hml, hown, hts⟩ (c_PS_nextFrom (l := l) (g := g) (o := so 15) (w := sw 15) (cp := mt_cp 15) (u := us 15) (f := ct 15) (i := 0) (by omega) (by first | omega | (rw [hu15]; exact mt_cp13 (by decide) (by decide) hn) | exact mt_cp13 (by decide) (by decide) hn) (mt_cp_le _)) (cwV 1 hts (gx_goodV wd_200 wd_201 wd_202 wd_4 wd_203) rfl rfl rfl (by decide +kernel) ⟨Nat.le_of_ble_eq_true rfl, Nat.le_of_ble_eq_true rfl⟩) (gc_preV (gc_recv hP hG (ci := 0) rfl (cw_oE (k := 15) (u := us 15) (by decide) (va_up_ne _ _ (by decide)))) (cw_pickE hP (by decide) (va_up_ne _ _ (by decide)) (va_up_ne _ _ (by decide))) hG) rfl rfl hl.1 rfl (lv_room (Nat.le_of_ble_eq_true rfl)) d_MG_crossStartsWithEnds_39 ⟨Nat.le_refl _, Nat.le_refl _⟩).run (fun r hr39 => ?_)
      obtain ⟨q39, hq39, hn39⟩ := hr39
      subst hq39
      have hcu39 := mt_nx_cu hn39
      refine lv_istore_n (lv' := [(2, .int (nI q39)), (1, .int (nI q)), (0, .ref (ad 0))]) hx hb d_MG_crossStartsWithEnds_42 rfl hl (by decide) rfl (fun ls hl => ?_)
      have lp43 : ∀ (d : Nat) (q2 : Nat) (f2 : Nat → Int64) (ls : Array Slot) (H : Heap) (locs : List Loc), d = 64 * us 15 - q2 → (q2 ≤ 64 * us 15) → (q2 < 64 * us 15 → mt_el (us 15) (ct 15) q2) → (mt_mp (mt_el (us 15) (ct 15)) (fun y z => z = q &&& y) (mt_el (mt_wd n) f) q2 (mt_el (mt_wd n) f2)) → lv_has ls 3 [(2, .int (nI q2)), (1, .int (nI q)), (0, .ref (ad 0))] → va_P g.1 gx_cl (cW g ad so sw I n v (va_up us 16 (mt_wd n)) (va_up ct 16 f2)) H → va_D (gx_in (cW g ad so sw I n v us ct)) (cW g ad so sw I n v (va_up us 16 (mt_wd n)) (va_up ct 16 f2)) → va_S (gx_in (cW g ad so sw I n v us ct)) s.heap H locs → W p l e (gx_rm 2 46) s m ([.ref (ad 0)] : List Value).toArray below meth c H locs 0 0 (MQ below (va_Qv (fun u1 => ∀ z, mt_el (mt_wd n) u1 z ↔ ∃ x y, mt_el (us 14) (ct 14) x ∧ mt_el (us 15) (ct 15) y ∧ z = x &&& y) (fun u9 t9 => va_P g.1 gx_cl ((fun u1 => cW g ad so sw I n v (va_up us 16 (mt_wd n)) (va_up ct 16 u1)) u9) t9.heap ∧ va_D (gx_in (cW g ad so sw I n v us ct)) ((fun u1 => cW g ad so sw I n v (va_up us 16 (mt_wd n)) (va_up ct 16 u1)) u9)) (gx_in (cW g ad so sw I n v us ct))) ([.ref (ad 0)] : List Value).toArray s 0 0 (gx_in (cW g ad so sw I n v us ct))) (F0 m 43 ls []) := by
        intro d
        induction d using Nat.strongRecOn with
        | ind d ih43 =>
        intro q2 f2 ls H locs hd hq2 hqS2 hm2 hl hP hD hS
        refine lv_iload_n hx hb d_MG_crossStartsWithEnds_43 rfl (lv_at hl 0 rfl) ?_
        refine lv_aload_n hx hb d_MG_crossStartsWithEnds_44 rfl (lv_at hl 2 rfl) ?_
        refine va_get (D := g.1) (own := R_MG) (ref := R_MG) (ci := 2) (v := .ref (so 15)) (C := R_MG) (T := F_MG) (N := 6) hx hb hts in_MG hown hG.1 hP 0 rfl rfl 3 (by decide) (hts _ wd_96) (fun _ h9 => h9) rfl d_MG_crossStartsWithEnds_45 ?_
        refine va_getN (D := g.1) (own := R_MG) (ref := R_PS) (ci := 0) (v := .int (nI (64 * (us 15)))) (C := R_PS) (T := F_PS) (N := 3) hx hb hts in_PS hown hG.1 hP _ (cw_oE (k := 15) (u := us 15) (by decide) (va_up_ne _ _ (by decide))) rfl 2 (by decide) (va_Nw.use rfl (hG.2.1 _ nw_7)) (fun _ h9 => h9) rfl d_MG_crossStartsWithEnds_48 ?_
        refine lv_icmp_ge (tgt := 78) hx hb d_MG_crossStartsWithEnds_51 (by decide) (mt_le (by omega) (by omega) fun hc51 => ?_) (mt_nle (by omega) (by omega) fun hc51 => ?_)
        · ---- 51T
          refine lv_aload_n hx hb d_MG_crossStartsWithEnds_78 rfl (lv_at hl 2 rfl) ?_
          refine va_get (D := g.1) (own := R_MG) (ref := R_MG) (ci := 2) (v := .ref (so 14)) (C := R_MG) (T := F_MG) (N := 6) hx hb hts in_MG hown hG.1 hP 0 rfl rfl 2 (by decide) (hts _ wd_95) (fun _ h9 => h9) rfl d_MG_crossStartsWithEnds_79 ?_
          refine lv_iload_n hx hb d_MG_crossStartsWithEnds_82 rfl (lv_at hl 1 rfl) ?_
          refine lv_iconst (v := nI 1) hx hb d_MG_crossStartsWithEnds_83 (by decide) ?_
          refine lv_iadd hx hb d_MG_crossStartsWithEnds_84 ?_
          refine mt_ri (y := nI (q + 1)) (nI_add _ _) ?_
          refine vp_callSi (va_runV (own := R_MG) (As := [.int (nI (q + 1))]) (rest := []) ⟨hx, hb, hml, hown, hts⟩ (c_PS_nextFrom (l := l) (g := g) (o := so 14) (w := sw 14) (cp := mt_cp 14) (u := us 14) (f := ct 14) (i := q + 1) (by omega) (by first | omega | (rw [hu14]; exact mt_cp13 (by decide) (by decide) hn) | exact mt_cp13 (by decide) (by decide) hn) (mt_cp_le _)) (cwV 1 hts (gx_goodV wd_200 wd_201 wd_202 wd_4 wd_203) rfl rfl rfl (by decide +kernel) ⟨Nat.le_of_ble_eq_true rfl, Nat.le_of_ble_eq_true rfl⟩) (gc_preV (gc_recv hP hG (ci := 0) rfl (cw_oE (k := 14) (u := us 14) (by decide) (va_up_ne _ _ (by decide)))) (cw_pickE hP (by decide) (va_up_ne _ _ (by decide)) (va_up_ne _ _ (by decide))) hG) rfl rfl hl.1 rfl (lv_room (Nat.le_of_ble_eq_true rfl)) d_MG_crossStartsWithEnds_85 ⟨Nat.le_refl _, Nat.le_refl _⟩).run (fun r hr85 => ?_)
          obtain ⟨q85, hq85, hn85⟩ := hr85
          subst hq85
          have hcu85 := mt_nx_cu hn85
          refine lv_istore_n (lv' := [(1, .int (nI q85)), (2, .int (nI q2)), (0, .ref (ad 0))]) hx hb d_MG_crossStartsWithEnds_88 rfl hl (by decide) rfl (fun ls hl => ?_)
          refine lv_goto (tgt := 23) hx hb d_MG_crossStartsWithEnds_89 (by decide) ?_
          exact ih23 _ (by have := hn85.1; omega) q85 f2 ls _ _ rfl (hcu85.1) (hcu85.2) (mt_mp_s hm (hqS (by omega)) hn85 (mt_mp_e hm2 (by omega))) (lv_sub hl [0, 2] rfl) hP hD hS
        · ---- 51F
          refine lv_aload_n hx hb d_MG_crossStartsWithEnds_54 rfl (lv_at hl 2 rfl) ?_
          refine va_get (D := g.1) (own := R_MG) (ref := R_MG) (ci := 2) (v := .ref (so 16)) (C := R_MG) (T := F_MG) (N := 6) hx hb hts in_MG hown hG.1 hP 0 rfl rfl 4 (by decide) (hts _ wd_97) (fun _ h9 => h9) rfl d_MG_crossStartsWithEnds_55 ?_
          refine lv_iload_n hx hb d_MG_crossStartsWithEnds_58 rfl (lv_at hl 1 rfl) ?_
          refine lv_iload_n hx hb d_MG_crossStartsWithEnds_59 rfl (lv_at hl 0 rfl) ?_
          refine lv_iand hx hb d_MG_crossStartsWithEnds_60 ?_
          refine mt_ri (y := nI (q &&& q2)) (mt_and _ _) ?_
          refine gc_caddE (u := mt_wd n) (f := f2) (by decide) (va_up_self _ _ _) (va_up_self _ _ _) (va_runV (own := R_MG) (As := [.int (nI (q &&& q2))]) (rest := []) ⟨hx, hb, hml, hown, hts⟩ (c_PS_add (l := l) (g := g) (o := so 16) (w := sw 16) (cp := mt_cp 16) (u := mt_wd n) (f := f2) (x := q &&& q2) (by have := Nat.and_le_left (n := q) (m := q2); omega) (by first | omega | (rw [hu16]; exact mt_cp13 (by decide) (by decide) hn) | exact mt_cp13 (by decide) (by decide) hn) (mt_cp_le _)) (cwV 1 hts (gx_goodV wd_87 wd_88 wd_89 wd_4 wd_90) rfl rfl rfl (by decide +kernel) ⟨Nat.le_of_ble_eq_true rfl, Nat.le_of_ble_eq_true rfl⟩) (gc_preVW (gc_recv hP hG (ci := 0) rfl (cw_oE (k := 16) (u := mt_wd n) (by decide) (va_up_self _ _ _))) (cw_pickE hP (by decide) (va_up_self _ _ _) (va_up_self _ _ _)) hG (cw_pickDE hD (by decide) (va_up_self _ _ _) (va_up_self _ _ _))) rfl rfl hl.1 rfl (lv_room (Nat.le_of_ble_eq_true rfl)) d_MG_crossStartsWithEnds_61 ⟨Nat.le_refl _, Nat.le_refl _⟩) hP hD hS (fun f61 H locs hf61 hP hD hS => ?_)
          rw [bx_uu] at hP hD
          have hP : va_P g.1 gx_cl (cW g ad so sw I n v (va_up us 16 (mt_wd n)) (va_up ct 16 f61)) H := hP
          have hD : va_D (gx_in (cW g ad so sw I n v us ct)) (cW g ad so sw I n v (va_up us 16 (mt_wd n)) (va_up ct 16 f61)) := hD
          refine lv_aload_n hx hb d_MG_crossStartsWithEnds_64 rfl (lv_at hl 2 rfl) ?_
          refine va_get (D := g.1) (own := R_MG) (ref := R_MG) (ci := 2) (v := .ref (so 15)) (C := R_MG) (T := F_MG) (N := 6) hx hb hts in_MG hown hG.1 hP 0 rfl rfl 3 (by decide) (hts _ wd_96) (fun _ h9 => h9) rfl d_MG_crossStartsWithEnds_65 ?_
          refine lv_iload_n hx hb d_MG_crossStartsWithEnds_68 rfl (lv_at hl 0 rfl) ?_
          refine lv_iconst (v := nI 1) hx hb d_MG_crossStartsWithEnds_69 (by decide) ?_
          refine lv_iadd hx hb d_MG_crossStartsWithEnds_70 ?_
          refine mt_ri (y := nI (q2 + 1)) (nI_add _ _) ?_
          refine vp_callSi (va_runV (own := R_MG) (As := [.int (nI (q2 + 1))]) (rest := []) ⟨hx, hb, hml, hown, hts⟩ (c_PS_nextFrom (l := l) (g := g) (o := so 15) (w := sw 15) (cp := mt_cp 15) (u := us 15) (f := ct 15) (i := q2 + 1) (by omega) (by first | omega | (rw [hu15]; exact mt_cp13 (by decide) (by decide) hn) | exact mt_cp13 (by decide) (by decide) hn) (mt_cp_le _)) (cwV 1 hts (gx_goodV wd_200 wd_201 wd_202 wd_4 wd_203) rfl rfl rfl (by decide +kernel) ⟨Nat.le_of_ble_eq_true rfl, Nat.le_of_ble_eq_true rfl⟩) (gc_preV (gc_recv hP hG (ci := 0) rfl (cw_oE (k := 15) (u := us 15) (by decide) (va_up_ne _ _ (by decide)))) (cw_pickE hP (by decide) (va_up_ne _ _ (by decide)) (va_up_ne _ _ (by decide))) hG) rfl rfl hl.1 rfl (lv_room (Nat.le_of_ble_eq_true rfl)) d_MG_crossStartsWithEnds_71 ⟨Nat.le_refl _, Nat.le_refl _⟩).run (fun r hr71 => ?_)
          obtain ⟨q71, hq71, hn71⟩ := hr71
          subst hq71
          have hcu71 := mt_nx_cu hn71
          refine lv_istore_n (lv' := [(2, .int (nI q71)), (1, .int (nI q)), (0, .ref (ad 0))]) hx hb d_MG_crossStartsWithEnds_74 rfl hl (by decide) rfl (fun ls hl => ?_)
          refine lv_goto (tgt := 43) hx hb d_MG_crossStartsWithEnds_75 (by decide) ?_
          exact ih43 _ (by have := hn71.1; omega) q71 f61 ls _ _ rfl (hcu71.1) (hcu71.2) (mt_mp_s hm2 (hqS2 (by omega)) hn71 hf61) (lv_sub hl [0, 1, 2] rfl) hP hD hS
      exact lp43 _ q39 f ls _ _ rfl (hcu39.1) (hcu39.2) (mt_mp_0 hn39 (fun _ => Iff.rfl)) (lv_sub hl [0, 1, 2] rfl) hP hD hS
  exact lp23 _ q19 f11 ls _ _ rfl (hcu19.1) (hcu19.2) (mt_mp_0 hn19 (mt_none hf11)) (lv_sub hl [0, 1] rfl) hP hD hS

set_option maxHeartbeats 4000000 in
set_option maxRecDepth 100000 in
theorem c_MG_addStep {g : gG} {ad so sw : Nat → Nat} {I : Nat → Nat → Int32} {n v : Nat} {us : Nat → Nat} {ct : Nat → Nat → Int64} {stp : Nat} {f0 : Nat → Int64} {l : Launch} (hn : n ≤ 13) (hu17 : us 17 = mt_wd n) (hf17 : ct 17 = f0) (hst : stp < 2 ^ n) (hB0 : ∀ x, mt_el (mt_wd n) f0 x → x < 2 ^ n) :
    gc_RV (S := Nat → Int64) l y_MG_addStep (gx_ws y_MG_addStep b_MG_addStep 3 none) 2 46 g [.ref (ad 0), .int (nI stp)] (cW g ad so sw I n v us ct) (fun u1 => cW g ad so sw I n v us (va_up ct 17 u1)) (fun u1 => ∀ z, mt_el (mt_wd n) u1 z ↔ (mt_el (mt_wd n) f0 z ∨ ∃ y, mt_el (mt_wd n) f0 y ∧ z = y ||| stp)) := by
  refine gx_body (by decide) (Nat.le_of_ble_eq_true rfl) ?_
  intro p e s m below meth c ls hAt hB hl
  obtain ⟨hx, hb, hml, hown, hts, hr, hlk, hnm⟩ := hAt
  have hown : s.vm.findClass R_MG = some m.cls := hown
  obtain ⟨⟨hP, hG⟩, hD0⟩ := hB
  have hD := gx_D.self hD0
  have hS : va_S (gx_in (cW g ad so sw I n v us ct)) s.heap s.heap [] := va_S.rf
  have hl : lv_has ls 3 [(0, .ref (ad 0)), (1, .int (nI stp))] := hl
  have hwd := mt_wd_le hn
  have hst13 := mt_lt13 hst hn
  refine lv_aload_n hx hb d_MG_addStep_0 rfl (lv_at hl 0 rfl) ?_
  refine va_get (D := g.1) (own := R_MG) (ref := R_MG) (ci := 2) (v := .ref (so 17)) (C := R_MG) (T := F_MG) (N := 6) hx hb hts in_MG hown hG.1 hP 0 rfl rfl 5 (by decide) (hts _ wd_98) (fun _ h9 => h9) rfl d_MG_addStep_1 ?_
  refine lv_iconst (v := nI 0) hx hb d_MG_addStep_4 (by decide) ?_
  refine vp_callSi (va_runV (own := R_MG) (As := [.int (nI 0)]) (rest := []) ⟨hx, hb, hml, hown, hts⟩ (c_PS_nextFrom (l := l) (g := g) (o := so 17) (w := sw 17) (cp := mt_cp 17) (u := mt_wd n) (f := f0) (i := 0) (by omega) (by first | omega | (rw [hu17]; exact mt_cp13 (by decide) (by decide) hn) | exact mt_cp13 (by decide) (by decide) hn) (mt_cp_le _)) (cwV 1 hts (gx_goodV wd_200 wd_201 wd_202 wd_4 wd_203) rfl rfl rfl (by decide +kernel) ⟨Nat.le_of_ble_eq_true rfl, Nat.le_of_ble_eq_true rfl⟩) (gc_preV (gc_recv hP hG (ci := 0) rfl (cw_oE (k := 17) (u := mt_wd n) (by decide) hu17)) (cw_pickE hP (by decide) hu17 hf17) hG) rfl rfl hl.1 rfl (lv_room (Nat.le_of_ble_eq_true rfl)) d_MG_addStep_5 ⟨Nat.le_refl _, Nat.le_refl _⟩).run (fun r hr5 => ?_)
  obtain ⟨q5, hq5, hn5⟩ := hr5
  subst hq5
  have hcu5 := mt_nx_cu hn5
  refine lv_istore_n (lv' := [(2, .int (nI q5)), (0, .ref (ad 0)), (1, .int (nI stp))]) hx hb d_MG_addStep_8 rfl hl (by decide) rfl (fun ls hl => ?_)
  have lp9 : ∀ (d : Nat) (q : Nat) (f : Nat → Int64) (ls : Array Slot) (H : Heap) (locs : List Loc), d = 64 * mt_wd n - q → (q ≤ 64 * mt_wd n) → (q < 64 * mt_wd n → mt_el (mt_wd n) f q) → (∀ x, mt_el (mt_wd n) f x ↔ (mt_el (mt_wd n) f0 x ∨ ∃ y, mt_el (mt_wd n) f0 y ∧ y < q ∧ x = y ||| stp)) → (∀ x, mt_el (mt_wd n) f x → x < 2 ^ n) → lv_has ls 3 [(2, .int (nI q)), (0, .ref (ad 0)), (1, .int (nI stp))] → va_P g.1 gx_cl (cW g ad so sw I n v us (va_up ct 17 f)) H → va_D (gx_in (cW g ad so sw I n v us ct)) (cW g ad so sw I n v us (va_up ct 17 f)) → va_S (gx_in (cW g ad so sw I n v us ct)) s.heap H locs → W p l e (gx_rm 2 46) s m ([.ref (ad 0), .int (nI stp)] : List Value).toArray below meth c H locs 0 0 (MQ below (va_Qv (fun u1 => ∀ z, mt_el (mt_wd n) u1 z ↔ (mt_el (mt_wd n) f0 z ∨ ∃ y, mt_el (mt_wd n) f0 y ∧ z = y ||| stp)) (fun u9 t9 => va_P g.1 gx_cl ((fun u1 => cW g ad so sw I n v us (va_up ct 17 u1)) u9) t9.heap ∧ va_D (gx_in (cW g ad so sw I n v us ct)) ((fun u1 => cW g ad so sw I n v us (va_up ct 17 u1)) u9)) (gx_in (cW g ad so sw I n v us ct))) ([.ref (ad 0), .int (nI stp)] : List Value).toArray s 0 0 (gx_in (cW g ad so sw I n v us ct))) (F0 m 9 ls []) := by
    intro d
    induction d using Nat.strongRecOn with
    | ind d ih9 =>
    intro q f ls H locs hd hq hqS hB hlt hl hP hD hS
    refine lv_iload_n hx hb d_MG_addStep_9 rfl (lv_at hl 0 rfl) ?_
    refine lv_aload_n hx hb d_MG_addStep_10 rfl (lv_at hl 1 rfl) ?_
    refine va_get (D := g.1) (own := R_MG) (ref := R_MG) (ci := 2) (v := .ref (so 17)) (C := R_MG) (T := F_MG) (N := 6) hx hb hts in_MG hown hG.1 hP 0 rfl rfl 5 (by decide) (hts _ wd_98) (fun _ h9 => h9) rfl d_MG_addStep_11 ?_
    refine va_getN (D := g.1) (own := R_MG) (ref := R_PS) (ci := 0) (v := .int (nI (64 * (mt_wd n)))) (C := R_PS) (T := F_PS) (N := 3) hx hb hts in_PS hown hG.1 hP _ (cw_oE (k := 17) (u := mt_wd n) (by decide) hu17) rfl 2 (by decide) (va_Nw.use rfl (hG.2.1 _ nw_7)) (fun _ h9 => h9) rfl d_MG_addStep_14 ?_
    refine lv_icmp_ge (tgt := 44) hx hb d_MG_addStep_17 (by decide) (mt_le (by omega) (by omega) fun hc17 => ?_) (mt_nle (by omega) (by omega) fun hc17 => ?_)
    · ---- 17T
      exact gc_retv (u := (f)) (Wf := fun u1 => cW g ad so sw I n v us (va_up ct 17 u1)) (post := fun u1 => ∀ z, mt_el (mt_wd n) u1 z ↔ (mt_el (mt_wd n) f0 z ∨ ∃ y, mt_el (mt_wd n) f0 y ∧ z = y ||| stp)) hx hb hr hlk (mt_walk_e hB (by omega)) hP hD hS d_MG_addStep_44
    · ---- 17F
      refine lv_aload_n hx hb d_MG_addStep_20 rfl (lv_at hl 1 rfl) ?_
      refine va_get (D := g.1) (own := R_MG) (ref := R_MG) (ci := 2) (v := .ref (so 17)) (C := R_MG) (T := F_MG) (N := 6) hx hb hts in_MG hown hG.1 hP 0 rfl rfl 5 (by decide) (hts _ wd_98) (fun _ h9 => h9) rfl d_MG_addStep_21 ?_
      refine lv_iload_n hx hb d_MG_addStep_24 rfl (lv_at hl 0 rfl) ?_
      refine lv_iload_n hx hb d_MG_addStep_25 rfl (lv_at hl 2 rfl) ?_
      refine lv_ior hx hb d_MG_addStep_26 ?_
      refine mt_ri (y := nI (q ||| stp)) (mt_or _ _) ?_
      refine gc_caddE (u := mt_wd n) (f := f) (by decide) hu17 (va_up_self _ _ _) (va_runV (own := R_MG) (As := [.int (nI (q ||| stp))]) (rest := []) ⟨hx, hb, hml, hown, hts⟩ (c_PS_add (l := l) (g := g) (o := so 17) (w := sw 17) (cp := mt_cp 17) (u := mt_wd n) (f := f) (x := q ||| stp) (by have := Nat.or_lt_two_pow (hlt q (hqS (by omega))) hst; omega) (by first | omega | (rw [hu17]; exact mt_cp13 (by decide) (by decide) hn) | exact mt_cp13 (by decide) (by decide) hn) (mt_cp_le _)) (cwV 1 hts (gx_goodV wd_87 wd_88 wd_89 wd_4 wd_90) rfl rfl rfl (by decide +kernel) ⟨Nat.le_of_ble_eq_true rfl, Nat.le_of_ble_eq_true rfl⟩) (gc_preVW (gc_recv hP hG (ci := 0) rfl (cw_oE (k := 17) (u := mt_wd n) (by decide) hu17)) (cw_pickE hP (by decide) hu17 (va_up_self _ _ _)) hG (cw_pickDE hD (by decide) hu17 (va_up_self _ _ _))) rfl rfl hl.1 rfl (lv_room (Nat.le_of_ble_eq_true rfl)) d_MG_addStep_27 ⟨Nat.le_refl _, Nat.le_refl _⟩) hP hD hS (fun f27 H locs hf27 hP hD hS => ?_)
      rw [bx_uu] at hP hD
      have hP : va_P g.1 gx_cl (cW g ad so sw I n v us (va_up ct 17 f27)) H := hP
      have hD : va_D (gx_in (cW g ad so sw I n v us ct)) (cW g ad so sw I n v us (va_up ct 17 f27)) := hD
      refine lv_aload_n hx hb d_MG_addStep_30 rfl (lv_at hl 1 rfl) ?_
      refine va_get (D := g.1) (own := R_MG) (ref := R_MG) (ci := 2) (v := .ref (so 17)) (C := R_MG) (T := F_MG) (N := 6) hx hb hts in_MG hown hG.1 hP 0 rfl rfl 5 (by decide) (hts _ wd_98) (fun _ h9 => h9) rfl d_MG_addStep_31 ?_
      refine lv_iload_n hx hb d_MG_addStep_34 rfl (lv_at hl 0 rfl) ?_
      refine lv_iconst (v := nI 1) hx hb d_MG_addStep_35 (by decide) ?_
      refine lv_iadd hx hb d_MG_addStep_36 ?_
      refine mt_ri (y := nI (q + 1)) (nI_add _ _) ?_
      refine vp_callSi (va_runV (own := R_MG) (As := [.int (nI (q + 1))]) (rest := []) ⟨hx, hb, hml, hown, hts⟩ (c_PS_nextFrom (l := l) (g := g) (o := so 17) (w := sw 17) (cp := mt_cp 17) (u := mt_wd n) (f := f27) (i := q + 1) (by omega) (by first | omega | (rw [hu17]; exact mt_cp13 (by decide) (by decide) hn) | exact mt_cp13 (by decide) (by decide) hn) (mt_cp_le _)) (cwV 1 hts (gx_goodV wd_200 wd_201 wd_202 wd_4 wd_203) rfl rfl rfl (by decide +kernel) ⟨Nat.le_of_ble_eq_true rfl, Nat.le_of_ble_eq_true rfl⟩) (gc_preV (gc_recv hP hG (ci := 0) rfl (cw_oE (k := 17) (u := mt_wd n) (by decide) hu17)) (cw_pickE hP (by decide) hu17 (va_up_self _ _ _)) hG) rfl rfl hl.1 rfl (lv_room (Nat.le_of_ble_eq_true rfl)) d_MG_addStep_37 ⟨Nat.le_refl _, Nat.le_refl _⟩).run (fun r hr37 => ?_)
      obtain ⟨q37, hq37, hn37⟩ := hr37
      subst hq37
      have hcu37 := mt_nx_cu hn37
      refine lv_istore_n (lv' := [(2, .int (nI q37)), (0, .ref (ad 0)), (1, .int (nI stp))]) hx hb d_MG_addStep_40 rfl hl (by decide) rfl (fun ls hl => ?_)
      refine lv_goto (tgt := 9) hx hb d_MG_addStep_41 (by decide) ?_
      exact ih9 _ (by have := hn37.1; omega) q37 f27 ls _ _ rfl (hcu37.1) (hcu37.2) (mt_walk_n (mt_walk hB (hqS (by omega)) hf27) hn37) (fun x hx => ((hf27 x).mp hx).elim (hlt x) (fun h => by rw [h]; exact Nat.or_lt_two_pow (hlt q (hqS (by omega))) hst)) (lv_sub hl [0, 1, 2] rfl) hP hD hS
  have hP := (show va_P g.1 gx_cl (cW g ad so sw I n v us (va_up ct 17 f0)) _ by rw [← hf17, va_up_id]; exact hP)
  have hD := (show va_D (gx_in (cW g ad so sw I n v us ct)) (cW g ad so sw I n v us (va_up ct 17 f0)) by rw [← hf17, va_up_id]; exact hD)
  exact lp9 _ q5 f0 ls _ _ rfl (hcu5.1) (hcu5.2) (mt_walk_n mt_walk_0 hn5) (hB0) (lv_sub hl [0, 1, 2] rfl) hP hD hS

set_option maxHeartbeats 4000000 in
set_option maxRecDepth 100000 in
theorem c_MG_uniteSteps {g : gG} {ad so sw : Nat → Nat} {I : Nat → Nat → Int32} {n v : Nat} {us : Nat → Nat} {ct : Nat → Nat → Int64} {C : Nat → Int64} {l : Launch} (hn : n ≤ 13) (hu16 : us 16 = mt_wd n) (hf16 : ct 16 = C) (hC : ∀ x, mt_el (mt_wd n) C x → x < 2 ^ n) :
    gc_RV (S := Nat → Int64) l y_MG_uniteSteps (gx_ws y_MG_uniteSteps b_MG_uniteSteps 2 none) 3 68 g [.ref (ad 0)] (cW g ad so sw I n v us ct) (fun u1 => cW g ad so sw I n v (va_up us 17 (mt_wd n)) (va_up ct 17 u1)) (fun u1 => ∀ z, mt_el (mt_wd n) u1 z ↔ mt_cl (mt_el (mt_wd n) C) z) := by
  refine gx_body (by decide) (Nat.le_of_ble_eq_true rfl) ?_
  intro p e s m below meth c ls hAt hB hl
  obtain ⟨hx, hb, hml, hown, hts, hr, hlk, hnm⟩ := hAt
  have hown : s.vm.findClass R_MG = some m.cls := hown
  obtain ⟨⟨hP, hG⟩, hD0⟩ := hB
  have hD := gx_D.self hD0
  have hS : va_S (gx_in (cW g ad so sw I n v us ct)) s.heap s.heap [] := va_S.rf
  have hl : lv_has ls 2 [(0, .ref (ad 0))] := hl
  have hwd := mt_wd_le hn
  refine lv_aload_n hx hb d_MG_uniteSteps_0 rfl (lv_at hl 0 rfl) ?_
  refine va_get (D := g.1) (own := R_MG) (ref := R_MG) (ci := 2) (v := .ref (so 17)) (C := R_MG) (T := F_MG) (N := 6) hx hb hts in_MG hown hG.1 hP 0 rfl rfl 5 (by decide) (hts _ wd_98) (fun _ h9 => h9) rfl d_MG_uniteSteps_1 ?_
  refine lv_aload_n hx hb d_MG_uniteSteps_4 rfl (lv_at hl 0 rfl) ?_
  refine va_get (D := g.1) (own := R_MG) (ref := R_MG) (ci := 2) (v := .ref (ad 1)) (C := R_MG) (T := F_MG) (N := 6) hx hb hts in_MG hown hG.1 hP 0 rfl rfl 0 (by decide) (hts _ wd_91) (fun _ h9 => h9) rfl d_MG_uniteSteps_5 ?_
  refine va_getN (D := g.1) (own := R_MG) (ref := R_TT) (ci := 1) (v := .int (nI n)) (C := R_TT) (T := F_TT) (N := 6) hx hb hts in_TT hown hG.1 hP 1 rfl rfl 5 (by decide) (va_Nw.use rfl (hG.2.1 _ nw_4)) (fun _ h9 => h9) rfl d_MG_uniteSteps_8 ?_
  refine gc_cresE (u := us 17) (f := ct 17) (w1 := mt_wd n) (by decide) rfl rfl (va_runV (own := R_MG) (As := [.int (nI n)]) (rest := []) ⟨hx, hb, hml, hown, hts⟩ (c_PS_restart (l := l) (g := g) (o := so 17) (w := sw 17) (cp := mt_cp 17) (u := us 17) (f := ct 17) (b := n) (by omega) (by exact mt_cp13 (by decide) (by decide) hn) (mt_cp_le _)) (cwV 1 hts (gx_goodV wd_80 wd_81 wd_82 wd_4 wd_83) rfl rfl rfl (by decide +kernel) ⟨Nat.le_of_ble_eq_true rfl, Nat.le_of_ble_eq_true rfl⟩) (gc_preVW (gc_recv hP hG (ci := 0) rfl (cw_oE (k := 17) (u := us 17) (by decide) rfl)) (cw_pickE hP (by decide) rfl rfl) hG (cw_pickDE hD (by decide) rfl rfl)) rfl rfl hl.1 rfl (lv_room (Nat.le_of_ble_eq_true rfl)) d_MG_uniteSteps_11 ⟨Nat.le_refl _, Nat.le_refl _⟩) hP hD hS (fun f11 H locs hf11 hP hD hS => ?_)
  have hP : va_P g.1 gx_cl (cW g ad so sw I n v (va_up us 17 (mt_wd n)) (va_up ct 17 f11)) H := hP
  have hD : va_D (gx_in (cW g ad so sw I n v us ct)) (cW g ad so sw I n v (va_up us 17 (mt_wd n)) (va_up ct 17 f11)) := hD
  refine lv_aload_n hx hb d_MG_uniteSteps_14 rfl (lv_at hl 0 rfl) ?_
  refine va_get (D := g.1) (own := R_MG) (ref := R_MG) (ci := 2) (v := .ref (so 17)) (C := R_MG) (T := F_MG) (N := 6) hx hb hts in_MG hown hG.1 hP 0 rfl rfl 5 (by decide) (hts _ wd_98) (fun _ h9 => h9) rfl d_MG_uniteSteps_15 ?_
  refine lv_iconst (v := nI 0) hx hb d_MG_uniteSteps_18 (by decide) ?_
  refine gc_caddE (u := mt_wd n) (f := f11) (by decide) (va_up_self _ _ _) (va_up_self _ _ _) (va_runV (own := R_MG) (As := [.int (nI 0)]) (rest := []) ⟨hx, hb, hml, hown, hts⟩ (c_PS_add (l := l) (g := g) (o := so 17) (w := sw 17) (cp := mt_cp 17) (u := mt_wd n) (f := f11) (x := 0) (by omega) (by first | omega | (rw [hu17]; exact mt_cp13 (by decide) (by decide) hn) | exact mt_cp13 (by decide) (by decide) hn) (mt_cp_le _)) (cwV 1 hts (gx_goodV wd_87 wd_88 wd_89 wd_4 wd_90) rfl rfl rfl (by decide +kernel) ⟨Nat.le_of_ble_eq_true rfl, Nat.le_of_ble_eq_true rfl⟩) (gc_preVW (gc_recv hP hG (ci := 0) rfl (cw_oE (k := 17) (u := mt_wd n) (by decide) (va_up_self _ _ _))) (cw_pickE hP (by decide) (va_up_self _ _ _) (va_up_self _ _ _)) hG (cw_pickDE hD (by decide) (va_up_self _ _ _) (va_up_self _ _ _))) rfl rfl hl.1 rfl (lv_room (Nat.le_of_ble_eq_true rfl)) d_MG_uniteSteps_19 ⟨Nat.le_refl _, Nat.le_refl _⟩) hP hD hS (fun f19 H locs hf19 hP hD hS => ?_)
  rw [bx_uu] at hP hD
  have hP : va_P g.1 gx_cl (cW g ad so sw I n v (va_up us 17 (mt_wd n)) (va_up ct 17 f19)) H := hP
  have hD : va_D (gx_in (cW g ad so sw I n v us ct)) (cW g ad so sw I n v (va_up us 17 (mt_wd n)) (va_up ct 17 f19)) := hD
  refine lv_aload_n hx hb d_MG_uniteSteps_22 rfl (lv_at hl 0 rfl) ?_
  refine va_get (D := g.1) (own := R_MG) (ref := R_MG) (ci := 2) (v := .ref (so 16)) (C := R_MG) (T := F_MG) (N := 6) hx hb hts in_MG hown hG.1 hP 0 rfl rfl 4 (by decide) (hts _ wd_97) (fun _ h9 => h9) rfl d_MG_uniteSteps_23 ?_
  refine lv_iconst (v := nI 0) hx hb d_MG_uniteSteps_26 (by decide) ?_
  refine vp_callSi (va_runV (own := R_MG) (As := [.int (nI 0)]) (rest := []) ⟨hx, hb, hml, hown, hts⟩ (c_PS_nextFrom (l := l) (g := g) (o := so 16) (w := sw 16) (cp := mt_cp 16) (u := mt_wd n) (f := C) (i := 0) (by omega) (by first | omega | (rw [hu16]; exact mt_cp13 (by decide) (by decide) hn) | exact mt_cp13 (by decide) (by decide) hn) (mt_cp_le _)) (cwV 1 hts (gx_goodV wd_200 wd_201 wd_202 wd_4 wd_203) rfl rfl rfl (by decide +kernel) ⟨Nat.le_of_ble_eq_true rfl, Nat.le_of_ble_eq_true rfl⟩) (gc_preV (gc_recv hP hG (ci := 0) rfl (cw_oE (k := 16) (u := mt_wd n) (by decide) ((va_up_ne _ _ (by decide)).trans (hu16)))) (cw_pickE hP (by decide) ((va_up_ne _ _ (by decide)).trans (hu16)) ((va_up_ne _ _ (by decide)).trans (hf16))) hG) rfl rfl hl.1 rfl (lv_room (Nat.le_of_ble_eq_true rfl)) d_MG_uniteSteps_27 ⟨Nat.le_refl _, Nat.le_refl _⟩).run (fun r hr27 => ?_)
  obtain ⟨q27, hq27, hn27⟩ := hr27
  subst hq27
  have hcu27 := mt_nx_cu hn27
  refine lv_istore_n (lv' := [(1, .int (nI q27)), (0, .ref (ad 0))]) hx hb d_MG_uniteSteps_30 rfl hl (by decide) rfl (fun ls hl => ?_)
  have lp31 : ∀ (d : Nat) (q : Nat) (f : Nat → Int64) (ls : Array Slot) (H : Heap) (locs : List Loc), d = 64 * mt_wd n - q → (q ≤ 64 * mt_wd n) → (q < 64 * mt_wd n → mt_el (mt_wd n) C q) → (∀ z, mt_el (mt_wd n) f z ↔ mt_cl (fun x => x < q ∧ mt_el (mt_wd n) C x) z) → lv_has ls 2 [(1, .int (nI q)), (0, .ref (ad 0))] → va_P g.1 gx_cl (cW g ad so sw I n v (va_up us 17 (mt_wd n)) (va_up ct 17 f)) H → va_D (gx_in (cW g ad so sw I n v us ct)) (cW g ad so sw I n v (va_up us 17 (mt_wd n)) (va_up ct 17 f)) → va_S (gx_in (cW g ad so sw I n v us ct)) s.heap H locs → W p l e (gx_rm 3 68) s m ([.ref (ad 0)] : List Value).toArray below meth c H locs 0 0 (MQ below (va_Qv (fun u1 => ∀ z, mt_el (mt_wd n) u1 z ↔ mt_cl (mt_el (mt_wd n) C) z) (fun u9 t9 => va_P g.1 gx_cl ((fun u1 => cW g ad so sw I n v (va_up us 17 (mt_wd n)) (va_up ct 17 u1)) u9) t9.heap ∧ va_D (gx_in (cW g ad so sw I n v us ct)) ((fun u1 => cW g ad so sw I n v (va_up us 17 (mt_wd n)) (va_up ct 17 u1)) u9)) (gx_in (cW g ad so sw I n v us ct))) ([.ref (ad 0)] : List Value).toArray s 0 0 (gx_in (cW g ad so sw I n v us ct))) (F0 m 31 ls []) := by
    intro d
    induction d using Nat.strongRecOn with
    | ind d ih31 =>
    intro q f ls H locs hd hq hqS hB hl hP hD hS
    refine lv_iload_n hx hb d_MG_uniteSteps_31 rfl (lv_at hl 0 rfl) ?_
    refine lv_aload_n hx hb d_MG_uniteSteps_32 rfl (lv_at hl 1 rfl) ?_
    refine va_get (D := g.1) (own := R_MG) (ref := R_MG) (ci := 2) (v := .ref (so 16)) (C := R_MG) (T := F_MG) (N := 6) hx hb hts in_MG hown hG.1 hP 0 rfl rfl 4 (by decide) (hts _ wd_97) (fun _ h9 => h9) rfl d_MG_uniteSteps_33 ?_
    refine va_getN (D := g.1) (own := R_MG) (ref := R_PS) (ci := 0) (v := .int (nI (64 * (mt_wd n)))) (C := R_PS) (T := F_PS) (N := 3) hx hb hts in_PS hown hG.1 hP _ (cw_oE (k := 16) (u := mt_wd n) (by decide) ((va_up_ne _ _ (by decide)).trans (hu16))) rfl 2 (by decide) (va_Nw.use rfl (hG.2.1 _ nw_7)) (fun _ h9 => h9) rfl d_MG_uniteSteps_36 ?_
    refine lv_icmp_ge (tgt := 72) hx hb d_MG_uniteSteps_39 (by decide) (mt_le (by omega) (by omega) fun hc39 => ?_) (mt_nle (by omega) (by omega) fun hc39 => ?_)
    · ---- 39T
      exact gc_retv (u := (f)) (Wf := fun u1 => cW g ad so sw I n v (va_up us 17 (mt_wd n)) (va_up ct 17 u1)) (post := fun u1 => ∀ z, mt_el (mt_wd n) u1 z ↔ mt_cl (mt_el (mt_wd n) C) z) hx hb hr hlk (mt_cl_end hB (by omega)) hP hD hS d_MG_uniteSteps_72
    · ---- 39F
      refine lv_aload_n hx hb d_MG_uniteSteps_42 rfl (lv_at hl 1 rfl) ?_
      refine va_get (D := g.1) (own := R_MG) (ref := R_MG) (ci := 2) (v := .ref (so 17)) (C := R_MG) (T := F_MG) (N := 6) hx hb hts in_MG hown hG.1 hP 0 rfl rfl 5 (by decide) (hts _ wd_98) (fun _ h9 => h9) rfl d_MG_uniteSteps_43 ?_
      refine lv_iload_n hx hb d_MG_uniteSteps_46 rfl (lv_at hl 0 rfl) ?_
      refine vp_callSi (va_runV (own := R_MG) (As := [.int (nI q)]) (rest := []) ⟨hx, hb, hml, hown, hts⟩ (c_PS_has (l := l) (g := g) (o := so 17) (w := sw 17) (cp := mt_cp 17) (u := mt_wd n) (f := f) (x := q) (by omega) (by first | omega | (rw [hu17]; exact mt_cp13 (by decide) (by decide) hn) | exact mt_cp13 (by decide) (by decide) hn) (mt_cp_le _)) (cwV 1 hts (gx_goodV wd_236 wd_237 wd_238 wd_4 wd_239) rfl rfl rfl (by decide +kernel) ⟨Nat.le_of_ble_eq_true rfl, Nat.le_of_ble_eq_true rfl⟩) (gc_preV (gc_recv hP hG (ci := 0) rfl (cw_oE (k := 17) (u := mt_wd n) (by decide) (va_up_self _ _ _))) (cw_pickE hP (by decide) (va_up_self _ _ _) (va_up_self _ _ _)) hG) rfl rfl hl.1 rfl (lv_room (Nat.le_of_ble_eq_true rfl)) d_MG_uniteSteps_47 ⟨Nat.le_refl _, Nat.le_refl _⟩).run (fun r hr47 => ?_)
      obtain ⟨z47, hq47, hz47⟩ := hr47
      subst hq47
      refine lv_if_ne (tgt := 58) hx hb d_MG_uniteSteps_50 (by decide) (mt_nz fun hc50 => ?_) (mt_z fun hc50 => ?_)
      · ---- 39F 50T
        refine lv_aload_n hx hb d_MG_uniteSteps_58 rfl (lv_at hl 1 rfl) ?_
        refine va_get (D := g.1) (own := R_MG) (ref := R_MG) (ci := 2) (v := .ref (so 16)) (C := R_MG) (T := F_MG) (N := 6) hx hb hts in_MG hown hG.1 hP 0 rfl rfl 4 (by decide) (hts _ wd_97) (fun _ h9 => h9) rfl d_MG_uniteSteps_59 ?_
        refine lv_iload_n hx hb d_MG_uniteSteps_62 rfl (lv_at hl 0 rfl) ?_
        refine lv_iconst (v := nI 1) hx hb d_MG_uniteSteps_63 (by decide) ?_
        refine lv_iadd hx hb d_MG_uniteSteps_64 ?_
        refine mt_ri (y := nI (q + 1)) (nI_add _ _) ?_
        refine vp_callSi (va_runV (own := R_MG) (As := [.int (nI (q + 1))]) (rest := []) ⟨hx, hb, hml, hown, hts⟩ (c_PS_nextFrom (l := l) (g := g) (o := so 16) (w := sw 16) (cp := mt_cp 16) (u := mt_wd n) (f := C) (i := q + 1) (by omega) (by first | omega | (rw [hu16]; exact mt_cp13 (by decide) (by decide) hn) | exact mt_cp13 (by decide) (by decide) hn) (mt_cp_le _)) (cwV 1 hts (gx_goodV wd_200 wd_201 wd_202 wd_4 wd_203) rfl rfl rfl (by decide +kernel) ⟨Nat.le_of_ble_eq_true rfl, Nat.le_of_ble_eq_true rfl⟩) (gc_preV (gc_recv hP hG (ci := 0) rfl (cw_oE (k := 16) (u := mt_wd n) (by decide) ((va_up_ne _ _ (by decide)).trans (hu16)))) (cw_pickE hP (by decide) ((va_up_ne _ _ (by decide)).trans (hu16)) ((va_up_ne _ _ (by decide)).trans (hf16))) hG) rfl rfl hl.1 rfl (lv_room (Nat.le_of_ble_eq_true rfl)) d_MG_uniteSteps_65 ⟨Nat.le_refl _, Nat.le_refl _⟩).run (fun r hr65 => ?_)
        obtain ⟨q65, hq65, hn65⟩ := hr65
        subst hq65
        have hcu65 := mt_nx_cu hn65
        refine lv_istore_n (lv' := [(1, .int (nI q65)), (0, .ref (ad 0))]) hx hb d_MG_uniteSteps_68 rfl hl (by decide) rfl (fun ls hl => ?_)
        refine lv_goto (tgt := 31) hx hb d_MG_uniteSteps_69 (by decide) ?_
        exact ih31 _ (by have := hn65.1; omega) q65 f ls _ _ rfl (hcu65.1) (hcu65.2) (mt_cl_skip hB (hqS (by omega)) (hz47.mp hc50) hn65) (lv_sub hl [0, 1] rfl) hP hD hS
      · ---- 39F 50F
        refine lv_aload_n hx hb d_MG_uniteSteps_53 rfl (lv_at hl 1 rfl) ?_
        refine lv_iload_n hx hb d_MG_uniteSteps_54 rfl (lv_at hl 0 rfl) ?_
        refine gc_cwv (va_runV (own := R_MG) (As := [.int (nI q)]) (rest := []) ⟨hx, hb, hml, hown, hts⟩ (c_MG_addStep (l := l) (g := g) (ad := ad) (so := so) (sw := sw) (I := I) (n := n) (v := v) (us := (va_up us 17 (mt_wd n))) (ct := (va_up ct 17 f)) (stp := q) (f0 := f) hn (va_up_self _ _ _) (va_up_self _ _ _) (by exact hC q (hqS (by omega))) (by exact fun x hx => mt_cl_lt (fun z hz => hC z hz.2) ((hB x).mp hx))) (cwV 1 hts (gx_goodV wd_240 wd_242 ws_7 wd_2 wd_243) rfl rfl rfl (by decide +kernel) ⟨Nat.le_of_ble_eq_true rfl, Nat.le_of_ble_eq_true rfl⟩) (gc_preVW (gc_recv hP hG (ci := 2) rfl (q0 := 0) rfl) hP hG hD) rfl rfl hl.1 rfl (lv_room (Nat.le_of_ble_eq_true rfl)) d_MG_uniteSteps_55 ⟨Nat.le_refl _, Nat.le_refl _⟩) hD hS (fun u55 H locs hu55 hP hD hS => ?_)
        rw [bx_uu] at hP hD
        have hP : va_P g.1 gx_cl (cW g ad so sw I n v (va_up us 17 (mt_wd n)) (va_up ct 17 u55)) H := hP
        have hD : va_D (gx_in (cW g ad so sw I n v us ct)) (cW g ad so sw I n v (va_up us 17 (mt_wd n)) (va_up ct 17 u55)) := hD
        refine lv_aload_n hx hb d_MG_uniteSteps_58 rfl (lv_at hl 1 rfl) ?_
        refine va_get (D := g.1) (own := R_MG) (ref := R_MG) (ci := 2) (v := .ref (so 16)) (C := R_MG) (T := F_MG) (N := 6) hx hb hts in_MG hown hG.1 hP 0 rfl rfl 4 (by decide) (hts _ wd_97) (fun _ h9 => h9) rfl d_MG_uniteSteps_59 ?_
        refine lv_iload_n hx hb d_MG_uniteSteps_62 rfl (lv_at hl 0 rfl) ?_
        refine lv_iconst (v := nI 1) hx hb d_MG_uniteSteps_63 (by decide) ?_
        refine lv_iadd hx hb d_MG_uniteSteps_64 ?_
        refine mt_ri (y := nI (q + 1)) (nI_add _ _) ?_
        refine vp_callSi (va_runV (own := R_MG) (As := [.int (nI (q + 1))]) (rest := []) ⟨hx, hb, hml, hown, hts⟩ (c_PS_nextFrom (l := l) (g := g) (o := so 16) (w := sw 16) (cp := mt_cp 16) (u := mt_wd n) (f := C) (i := q + 1) (by omega) (by first | omega | (rw [hu16]; exact mt_cp13 (by decide) (by decide) hn) | exact mt_cp13 (by decide) (by decide) hn) (mt_cp_le _)) (cwV 1 hts (gx_goodV wd_200 wd_201 wd_202 wd_4 wd_203) rfl rfl rfl (by decide +kernel) ⟨Nat.le_of_ble_eq_true rfl, Nat.le_of_ble_eq_true rfl⟩) (gc_preV (gc_recv hP hG (ci := 0) rfl (cw_oE (k := 16) (u := mt_wd n) (by decide) ((va_up_ne _ _ (by decide)).trans (hu16)))) (cw_pickE hP (by decide) ((va_up_ne _ _ (by decide)).trans (hu16)) ((va_up_ne _ _ (by decide)).trans (hf16))) hG) rfl rfl hl.1 rfl (lv_room (Nat.le_of_ble_eq_true rfl)) d_MG_uniteSteps_65 ⟨Nat.le_refl _, Nat.le_refl _⟩).run (fun r hr65 => ?_)
        obtain ⟨q65, hq65, hn65⟩ := hr65
        subst hq65
        have hcu65 := mt_nx_cu hn65
        refine lv_istore_n (lv' := [(1, .int (nI q65)), (0, .ref (ad 0))]) hx hb d_MG_uniteSteps_68 rfl hl (by decide) rfl (fun ls hl => ?_)
        refine lv_goto (tgt := 31) hx hb d_MG_uniteSteps_69 (by decide) ?_
        exact ih31 _ (by have := hn65.1; omega) q65 u55 ls _ _ rfl (hcu65.1) (hcu65.2) (mt_cl_take hB (hqS (by omega)) hu55 hn65) (lv_sub hl [0, 1] rfl) hP hD hS
  exact lp31 _ q27 f19 ls _ _ rfl (hcu27.1) (hcu27.2) (mt_cl_start hf11 hf19 hn27) (lv_sub hl [0, 1] rfl) hP hD hS

set_option maxHeartbeats 4000000 in
set_option maxRecDepth 100000 in
theorem c_MG_findStepsThatBreak {g : gG} {ad so sw : Nat → Nat} {I : Nat → Nat → Int32} {n v : Nat} {us : Nat → Nat} {ct : Nat → Nat → Int64}{k a b : Nat → Nat} {i ui : Nat} {Fi : Nat → Int64} {l : Launch} (hT : mt_TR I n k a b) (hn : n ≤ 13) (hw : mt_wf k a b n) (hi : i < 14) (hui : us i = ui) (hfi : ct i = Fi) (hucp : ui ≤ mt_cp i) :
    gc_RV (S := gF3) l y_MG_findStepsThatBreak (gx_ws y_MG_findStepsThatBreak b_MG_findStepsThatBreak 4 none) 3 68 g [.ref (ad 0), .int (nI (mt_ar k n)), .ref (so i)] (cW g ad so sw I n v us ct) (fun (u : gF3) => cW g ad so sw I n v (va_up (va_up (va_up us 14 (mt_wd n)) 15 (mt_wd n)) 16 (mt_wd n)) (va_up (va_up (va_up ct 14 u.1) 15 u.2.1) 16 u.2.2)) (fun (u : gF3) => ∀ z, mt_el (mt_wd n) u.2.2 z ↔ mt_stp k a b n (mt_el ui Fi) z) := by
  refine gx_body (by decide) (Nat.le_of_ble_eq_true rfl) ?_
  intro p e s m below meth c ls hAt hB hl
  obtain ⟨hx, hb, hml, hown, hts, hr, hlk, hnm⟩ := hAt
  have hown : s.vm.findClass R_MG = some m.cls := hown
  obtain ⟨⟨hP, hG⟩, hD0⟩ := hB
  have hD := gx_D.self hD0
  have hS : va_S (gx_in (cW g ad so sw I n v us ct)) s.heap s.heap [] := va_S.rf
  have hl : lv_has ls 4 [(0, .ref (ad 0)), (1, .int (nI (mt_ar k n))), (2, .ref (so i))] := hl
  have hwd := mt_wd_le hn
  have har := mt_ma_lt (fun t => k t == 2) n
  have har2 : mt_ar k n < 2 ^ n := har
  have har13 := mt_lt13 har2 hn
  have hcp128 := mt_cp_le i
  refine lv_aload_n hx hb d_MG_findStepsThatBreak_0 rfl (lv_at hl 0 rfl) ?_
  refine va_get (D := g.1) (own := R_MG) (ref := R_MG) (ci := 2) (v := .ref (so 14)) (C := R_MG) (T := F_MG) (N := 6) hx hb hts in_MG hown hG.1 hP 0 rfl rfl 2 (by decide) (hts _ wd_95) (fun _ h9 => h9) rfl d_MG_findStepsThatBreak_1 ?_
  refine lv_aload_n hx hb d_MG_findStepsThatBreak_4 rfl (lv_at hl 0 rfl) ?_
  refine va_get (D := g.1) (own := R_MG) (ref := R_MG) (ci := 2) (v := .ref (ad 1)) (C := R_MG) (T := F_MG) (N := 6) hx hb hts in_MG hown hG.1 hP 0 rfl rfl 0 (by decide) (hts _ wd_91) (fun _ h9 => h9) rfl d_MG_findStepsThatBreak_5 ?_
  refine va_getN (D := g.1) (own := R_MG) (ref := R_TT) (ci := 1) (v := .int (nI n)) (C := R_TT) (T := F_TT) (N := 6) hx hb hts in_TT hown hG.1 hP 1 rfl rfl 5 (by decide) (va_Nw.use rfl (hG.2.1 _ nw_4)) (fun _ h9 => h9) rfl d_MG_findStepsThatBreak_8 ?_
  refine gc_cresE (u := us 14) (f := ct 14) (w1 := mt_wd n) (by decide) rfl rfl (va_runV (own := R_MG) (As := [.int (nI n)]) (rest := []) ⟨hx, hb, hml, hown, hts⟩ (c_PS_restart (l := l) (g := g) (o := so 14) (w := sw 14) (cp := mt_cp 14) (u := us 14) (f := ct 14) (b := n) (by omega) (by exact mt_cp13 (by decide) (by decide) hn) (mt_cp_le _)) (cwV 1 hts (gx_goodV wd_80 wd_81 wd_82 wd_4 wd_83) rfl rfl rfl (by decide +kernel) ⟨Nat.le_of_ble_eq_true rfl, Nat.le_of_ble_eq_true rfl⟩) (gc_preVW (gc_recv hP hG (ci := 0) rfl (cw_oE (k := 14) (u := us 14) (by decide) rfl)) (cw_pickE hP (by decide) rfl rfl) hG (cw_pickDE hD (by decide) rfl rfl)) rfl rfl hl.1 rfl (lv_room (Nat.le_of_ble_eq_true rfl)) d_MG_findStepsThatBreak_11 ⟨Nat.le_refl _, Nat.le_refl _⟩) hP hD hS (fun f11 H locs hf11 hP hD hS => ?_)
  have hP : va_P g.1 gx_cl (cW g ad so sw I n v (va_up us 14 (mt_wd n)) (va_up ct 14 f11)) H := hP
  have hD : va_D (gx_in (cW g ad so sw I n v us ct)) (cW g ad so sw I n v (va_up us 14 (mt_wd n)) (va_up ct 14 f11)) := hD
  refine lv_aload_n hx hb d_MG_findStepsThatBreak_14 rfl (lv_at hl 0 rfl) ?_
  refine va_get (D := g.1) (own := R_MG) (ref := R_MG) (ci := 2) (v := .ref (so 15)) (C := R_MG) (T := F_MG) (N := 6) hx hb hts in_MG hown hG.1 hP 0 rfl rfl 3 (by decide) (hts _ wd_96) (fun _ h9 => h9) rfl d_MG_findStepsThatBreak_15 ?_
  refine lv_aload_n hx hb d_MG_findStepsThatBreak_18 rfl (lv_at hl 0 rfl) ?_
  refine va_get (D := g.1) (own := R_MG) (ref := R_MG) (ci := 2) (v := .ref (ad 1)) (C := R_MG) (T := F_MG) (N := 6) hx hb hts in_MG hown hG.1 hP 0 rfl rfl 0 (by decide) (hts _ wd_91) (fun _ h9 => h9) rfl d_MG_findStepsThatBreak_19 ?_
  refine va_getN (D := g.1) (own := R_MG) (ref := R_TT) (ci := 1) (v := .int (nI n)) (C := R_TT) (T := F_TT) (N := 6) hx hb hts in_TT hown hG.1 hP 1 rfl rfl 5 (by decide) (va_Nw.use rfl (hG.2.1 _ nw_4)) (fun _ h9 => h9) rfl d_MG_findStepsThatBreak_22 ?_
  refine gc_cresE (u := us 15) (f := ct 15) (w1 := mt_wd n) (by decide) (va_up_ne _ _ (by decide)) (va_up_ne _ _ (by decide)) (va_runV (own := R_MG) (As := [.int (nI n)]) (rest := []) ⟨hx, hb, hml, hown, hts⟩ (c_PS_restart (l := l) (g := g) (o := so 15) (w := sw 15) (cp := mt_cp 15) (u := us 15) (f := ct 15) (b := n) (by omega) (by exact mt_cp13 (by decide) (by decide) hn) (mt_cp_le _)) (cwV 1 hts (gx_goodV wd_80 wd_81 wd_82 wd_4 wd_83) rfl rfl rfl (by decide +kernel) ⟨Nat.le_of_ble_eq_true rfl, Nat.le_of_ble_eq_true rfl⟩) (gc_preVW (gc_recv hP hG (ci := 0) rfl (cw_oE (k := 15) (u := us 15) (by decide) (va_up_ne _ _ (by decide)))) (cw_pickE hP (by decide) (va_up_ne _ _ (by decide)) (va_up_ne _ _ (by decide))) hG (cw_pickDE hD (by decide) (va_up_ne _ _ (by decide)) (va_up_ne _ _ (by decide)))) rfl rfl hl.1 rfl (lv_room (Nat.le_of_ble_eq_true rfl)) d_MG_findStepsThatBreak_25 ⟨Nat.le_refl _, Nat.le_refl _⟩) hP hD hS (fun f25 H locs hf25 hP hD hS => ?_)
  have hP : va_P g.1 gx_cl (cW g ad so sw I n v (va_up (va_up us 14 (mt_wd n)) 15 (mt_wd n)) (va_up (va_up ct 14 f11) 15 f25)) H := hP
  have hD : va_D (gx_in (cW g ad so sw I n v us ct)) (cW g ad so sw I n v (va_up (va_up us 14 (mt_wd n)) 15 (mt_wd n)) (va_up (va_up ct 14 f11) 15 f25)) := hD
  refine lv_aload_n hx hb d_MG_findStepsThatBreak_28 rfl (lv_at hl 0 rfl) ?_
  refine va_get (D := g.1) (own := R_MG) (ref := R_MG) (ci := 2) (v := .ref (so 15)) (C := R_MG) (T := F_MG) (N := 6) hx hb hts in_MG hown hG.1 hP 0 rfl rfl 3 (by decide) (hts _ wd_96) (fun _ h9 => h9) rfl d_MG_findStepsThatBreak_29 ?_
  refine lv_iload_n hx hb d_MG_findStepsThatBreak_32 rfl (lv_at hl 1 rfl) ?_
  refine gc_caddE (u := mt_wd n) (f := f25) (by decide) (va_up_self _ _ _) (va_up_self _ _ _) (va_runV (own := R_MG) (As := [.int (nI (mt_ar k n))]) (rest := []) ⟨hx, hb, hml, hown, hts⟩ (c_PS_add (l := l) (g := g) (o := so 15) (w := sw 15) (cp := mt_cp 15) (u := mt_wd n) (f := f25) (x := mt_ar k n) (by omega) (by first | omega | (rw [hu15]; exact mt_cp13 (by decide) (by decide) hn) | exact mt_cp13 (by decide) (by decide) hn) (mt_cp_le _)) (cwV 1 hts (gx_goodV wd_87 wd_88 wd_89 wd_4 wd_90) rfl rfl rfl (by decide +kernel) ⟨Nat.le_of_ble_eq_true rfl, Nat.le_of_ble_eq_true rfl⟩) (gc_preVW (gc_recv hP hG (ci := 0) rfl (cw_oE (k := 15) (u := mt_wd n) (by decide) (va_up_self _ _ _))) (cw_pickE hP (by decide) (va_up_self _ _ _) (va_up_self _ _ _)) hG (cw_pickDE hD (by decide) (va_up_self _ _ _) (va_up_self _ _ _))) rfl rfl hl.1 rfl (lv_room (Nat.le_of_ble_eq_true rfl)) d_MG_findStepsThatBreak_33 ⟨Nat.le_refl _, Nat.le_refl _⟩) hP hD hS (fun f33 H locs hf33 hP hD hS => ?_)
  rw [bx_uu] at hP hD
  have hP : va_P g.1 gx_cl (cW g ad so sw I n v (va_up (va_up us 14 (mt_wd n)) 15 (mt_wd n)) (va_up (va_up ct 14 f11) 15 f33)) H := hP
  have hD : va_D (gx_in (cW g ad so sw I n v us ct)) (cW g ad so sw I n v (va_up (va_up us 14 (mt_wd n)) 15 (mt_wd n)) (va_up (va_up ct 14 f11) 15 f33)) := hD
  refine lv_aload_n hx hb d_MG_findStepsThatBreak_36 rfl (lv_at hl 2 rfl) ?_
  refine lv_iconst (v := nI 0) hx hb d_MG_findStepsThatBreak_37 (by decide) ?_
  refine vp_callSi (va_runV (own := R_MG) (As := [.int (nI 0)]) (rest := []) ⟨hx, hb, hml, hown, hts⟩ (c_PS_nextFrom (l := l) (g := g) (o := so i) (w := sw i) (cp := mt_cp i) (u := ui) (f := Fi) (i := 0) (by omega) (by omega) (mt_cp_le _)) (cwV 1 hts (gx_goodV wd_200 wd_201 wd_202 wd_4 wd_203) rfl rfl rfl (by decide +kernel) ⟨Nat.le_of_ble_eq_true rfl, Nat.le_of_ble_eq_true rfl⟩) (gc_preV (gc_recv hP hG (ci := 0) rfl (cw_oE (k := i) (u := ui) (by omega) ((va_up_ne _ _ (by omega)).trans ((va_up_ne _ _ (by omega)).trans (hui))))) (cw_pickE hP (by omega) ((va_up_ne _ _ (by omega)).trans ((va_up_ne _ _ (by omega)).trans (hui))) ((va_up_ne _ _ (by omega)).trans ((va_up_ne _ _ (by omega)).trans (hfi)))) hG) rfl rfl hl.1 rfl (lv_room (Nat.le_of_ble_eq_true rfl)) d_MG_findStepsThatBreak_38 ⟨Nat.le_refl _, Nat.le_refl _⟩).run (fun r hr38 => ?_)
  obtain ⟨q38, hq38, hn38⟩ := hr38
  subst hq38
  have hcu38 := mt_nx_cu hn38
  refine lv_istore_n (lv' := [(3, .int (nI q38)), (0, .ref (ad 0)), (1, .int (nI (mt_ar k n))), (2, .ref (so i))]) hx hb d_MG_findStepsThatBreak_41 rfl hl (by decide) rfl (fun ls hl => ?_)
  have lp42 : ∀ (d : Nat) (q : Nat) (f : Nat → Int64) (f2 : Nat → Int64) (ls : Array Slot) (H : Heap) (locs : List Loc), d = 64 * ui - q → (q ≤ 64 * ui) → (q < 64 * ui → mt_el ui Fi q) → (mt_mp (mt_el ui Fi) (fun x z => z = mt_fs k a n x) (fun _ => False) q (mt_el (mt_wd n) f)) → (mt_mp (mt_el ui Fi) (fun x z => z = mt_dif (mt_ar k n) (mt_fs k b n x)) (fun z => z = mt_ar k n) q (mt_el (mt_wd n) f2)) → lv_has ls 4 [(3, .int (nI q)), (0, .ref (ad 0)), (1, .int (nI (mt_ar k n))), (2, .ref (so i))] → va_P g.1 gx_cl (cW g ad so sw I n v (va_up (va_up us 14 (mt_wd n)) 15 (mt_wd n)) (va_up (va_up ct 14 f) 15 f2)) H → va_D (gx_in (cW g ad so sw I n v us ct)) (cW g ad so sw I n v (va_up (va_up us 14 (mt_wd n)) 15 (mt_wd n)) (va_up (va_up ct 14 f) 15 f2)) → va_S (gx_in (cW g ad so sw I n v us ct)) s.heap H locs → W p l e (gx_rm 3 68) s m ([.ref (ad 0), .int (nI (mt_ar k n)), .ref (so i)] : List Value).toArray below meth c H locs 0 0 (MQ below (va_Qv (fun (u : gF3) => ∀ z, mt_el (mt_wd n) u.2.2 z ↔ mt_stp k a b n (mt_el ui Fi) z) (fun u9 t9 => va_P g.1 gx_cl ((fun (u : gF3) => cW g ad so sw I n v (va_up (va_up (va_up us 14 (mt_wd n)) 15 (mt_wd n)) 16 (mt_wd n)) (va_up (va_up (va_up ct 14 u.1) 15 u.2.1) 16 u.2.2)) u9) t9.heap ∧ va_D (gx_in (cW g ad so sw I n v us ct)) ((fun (u : gF3) => cW g ad so sw I n v (va_up (va_up (va_up us 14 (mt_wd n)) 15 (mt_wd n)) 16 (mt_wd n)) (va_up (va_up (va_up ct 14 u.1) 15 u.2.1) 16 u.2.2)) u9)) (gx_in (cW g ad so sw I n v us ct))) ([.ref (ad 0), .int (nI (mt_ar k n)), .ref (so i)] : List Value).toArray s 0 0 (gx_in (cW g ad so sw I n v us ct))) (F0 m 42 ls []) := by
    intro d
    induction d using Nat.strongRecOn with
    | ind d ih42 =>
    intro q f f2 ls H locs hd hq hqS hm hm2 hl hP hD hS
    refine lv_iload_n hx hb d_MG_findStepsThatBreak_42 rfl (lv_at hl 0 rfl) ?_
    refine lv_aload_n hx hb d_MG_findStepsThatBreak_43 rfl (lv_at hl 3 rfl) ?_
    refine va_getN (D := g.1) (own := R_MG) (ref := R_PS) (ci := 0) (v := .int (nI (64 * ui))) (C := R_PS) (T := F_PS) (N := 3) hx hb hts in_PS hown hG.1 hP _ (cw_oE (k := i) (u := ui) (by omega) ((va_up_ne _ _ (by omega)).trans ((va_up_ne _ _ (by omega)).trans (hui)))) rfl 2 (by decide) (va_Nw.use rfl (hG.2.1 _ nw_7)) (fun _ h9 => h9) rfl d_MG_findStepsThatBreak_44 ?_
    refine lv_icmp_ge (tgt := 111) hx hb d_MG_findStepsThatBreak_47 (by decide) (mt_le (by omega) (by omega) fun hc47 => ?_) (mt_nle (by omega) (by omega) fun hc47 => ?_)
    · ---- 47T
      refine lv_aload_n hx hb d_MG_findStepsThatBreak_111 rfl (lv_at hl 1 rfl) ?_
      refine gc_cwv (va_runV (own := R_MG) (As := []) (rest := []) ⟨hx, hb, hml, hown, hts⟩ (c_MG_crossStartsWithEnds (l := l) (g := g) (ad := ad) (so := so) (sw := sw) (I := I) (n := n) (v := v) (us := (va_up (va_up us 14 (mt_wd n)) 15 (mt_wd n))) (ct := (va_up (va_up ct 14 f) 15 f2)) hn ((va_up_ne _ _ (by decide)).trans (va_up_self _ _ _)) (va_up_self _ _ _)) (cwV 0 hts (gx_goodV wd_215 wd_217 ws_3 wd_2 wd_218) rfl rfl rfl (by decide +kernel) ⟨Nat.le_of_ble_eq_true rfl, Nat.le_of_ble_eq_true rfl⟩) (gc_preVW (gc_recv hP hG (ci := 2) rfl (q0 := 0) rfl) hP hG hD) rfl rfl hl.1 rfl (lv_room (Nat.le_of_ble_eq_true rfl)) d_MG_findStepsThatBreak_112 ⟨Nat.le_refl _, Nat.le_refl _⟩) hD hS (fun u112 H locs hu112 hP hD hS => ?_)
      have hP : va_P g.1 gx_cl (cW g ad so sw I n v (va_up (va_up (va_up us 14 (mt_wd n)) 15 (mt_wd n)) 16 (mt_wd n)) (va_up (va_up (va_up ct 14 f) 15 f2) 16 u112)) H := hP
      have hD : va_D (gx_in (cW g ad so sw I n v us ct)) (cW g ad so sw I n v (va_up (va_up (va_up us 14 (mt_wd n)) 15 (mt_wd n)) 16 (mt_wd n)) (va_up (va_up (va_up ct 14 f) 15 f2) 16 u112)) := hD
      exact gc_retv (u := (f, f2, u112)) (Wf := fun (u : gF3) => cW g ad so sw I n v (va_up (va_up (va_up us 14 (mt_wd n)) 15 (mt_wd n)) 16 (mt_wd n)) (va_up (va_up (va_up ct 14 u.1) 15 u.2.1) 16 u.2.2)) (post := fun (u : gF3) => ∀ z, mt_el (mt_wd n) u.2.2 z ↔ mt_stp k a b n (mt_el ui Fi) z) hx hb hr hlk (fun z => (hu112 z).trans (mt_stp_of (mt_mp_e hm (by omega)) (mt_mp_e hm2 (by omega)) z)) hP hD hS d_MG_findStepsThatBreak_115
    · ---- 47F
      refine lv_aload_n hx hb d_MG_findStepsThatBreak_50 rfl (lv_at hl 1 rfl) ?_
      refine va_get (D := g.1) (own := R_MG) (ref := R_MG) (ci := 2) (v := .ref (so 14)) (C := R_MG) (T := F_MG) (N := 6) hx hb hts in_MG hown hG.1 hP 0 rfl rfl 2 (by decide) (hts _ wd_95) (fun _ h9 => h9) rfl d_MG_findStepsThatBreak_51 ?_
      refine lv_aload_n hx hb d_MG_findStepsThatBreak_54 rfl (lv_at hl 1 rfl) ?_
      refine va_get (D := g.1) (own := R_MG) (ref := R_MG) (ci := 2) (v := .ref (ad 1)) (C := R_MG) (T := F_MG) (N := 6) hx hb hts in_MG hown hG.1 hP 0 rfl rfl 0 (by decide) (hts _ wd_91) (fun _ h9 => h9) rfl d_MG_findStepsThatBreak_55 ?_
      refine lv_iconst (v := nI 2) hx hb d_MG_findStepsThatBreak_58 (by decide) ?_
      refine lv_aload_n hx hb d_MG_findStepsThatBreak_59 rfl (lv_at hl 1 rfl) ?_
      refine va_get (D := g.1) (own := R_MG) (ref := R_MG) (ci := 2) (v := .ref (ad 1)) (C := R_MG) (T := F_MG) (N := 6) hx hb hts in_MG hown hG.1 hP 0 rfl rfl 0 (by decide) (hts _ wd_91) (fun _ h9 => h9) rfl d_MG_findStepsThatBreak_60 ?_
      refine va_getN (D := g.1) (own := R_MG) (ref := R_TT) (ci := 1) (v := .ref (ad 3)) (C := R_TT) (T := F_TT) (N := 6) hx hb hts in_TT hown hG.1 hP 1 rfl rfl 1 (by decide) (va_Nw.use rfl (hG.2.1 _ nw_1)) (fun _ h9 => h9) rfl d_MG_findStepsThatBreak_63 ?_
      refine lv_iload_n hx hb d_MG_findStepsThatBreak_66 rfl (lv_at hl 0 rfl) ?_
      refine vp_callSi (va_runV (own := R_MG) (As := [.int (nI 2), .ref (ad 3), .int (nI q)]) (rest := [.ref (so 14)]) ⟨hx, hb, hml, hown, hts⟩ (c_TT_partHolds1 (l := l) (g := g) (ad := ad) (so := so) (sw := sw) (I := I) (n := n) (v := v) (us := (va_up (va_up us 14 (mt_wd n)) 15 (mt_wd n))) (ct := (va_up (va_up ct 14 f) 15 f2)) (k := k) (a := a) (b := b) (ww := 2) (pp := q) hT hn hw (by decide) (by omega)) (cwV 3 hts (gx_goodV wd_211 wd_212 wd_213 wd_3 wd_214) rfl rfl rfl (by decide +kernel) ⟨Nat.le_of_ble_eq_true rfl, Nat.le_of_ble_eq_true rfl⟩) (gc_preV (gc_recv hP hG (ci := 1) rfl (q0 := 1) rfl) hP hG) rfl rfl hl.1 rfl (lv_room (Nat.le_of_ble_eq_true rfl)) d_MG_findStepsThatBreak_67 ⟨Nat.le_refl _, Nat.le_refl _⟩).run (fun r hr67 => ?_)
      subst hr67
      refine gc_caddE (u := mt_wd n) (f := f) (by decide) ((va_up_ne _ _ (by decide)).trans (va_up_self _ _ _)) ((va_up_ne _ _ (by decide)).trans (va_up_self _ _ _)) (va_runV (own := R_MG) (As := [.int (nI (mt_ma (fun t => k t == 2 && Nat.testBit q (a t)) n))]) (rest := []) ⟨hx, hb, hml, hown, hts⟩ (c_PS_add (l := l) (g := g) (o := so 14) (w := sw 14) (cp := mt_cp 14) (u := mt_wd n) (f := f) (x := mt_ma (fun t => k t == 2 && Nat.testBit q (a t)) n) (by have := mt_ma_lt (fun t => k t == 2 && Nat.testBit q (a t)) n; omega) (by first | omega | (rw [hu14]; exact mt_cp13 (by decide) (by decide) hn) | exact mt_cp13 (by decide) (by decide) hn) (mt_cp_le _)) (cwV 1 hts (gx_goodV wd_87 wd_88 wd_89 wd_4 wd_90) rfl rfl rfl (by decide +kernel) ⟨Nat.le_of_ble_eq_true rfl, Nat.le_of_ble_eq_true rfl⟩) (gc_preVW (gc_recv hP hG (ci := 0) rfl (cw_oE (k := 14) (u := mt_wd n) (by decide) ((va_up_ne _ _ (by decide)).trans (va_up_self _ _ _)))) (cw_pickE hP (by decide) ((va_up_ne _ _ (by decide)).trans (va_up_self _ _ _)) ((va_up_ne _ _ (by decide)).trans (va_up_self _ _ _))) hG (cw_pickDE hD (by decide) ((va_up_ne _ _ (by decide)).trans (va_up_self _ _ _)) ((va_up_ne _ _ (by decide)).trans (va_up_self _ _ _)))) rfl rfl hl.1 rfl (lv_room (Nat.le_of_ble_eq_true rfl)) d_MG_findStepsThatBreak_70 ⟨Nat.le_refl _, Nat.le_refl _⟩) hP hD hS (fun f70 H locs hf70 hP hD hS => ?_)
      rw [va_up_comm (j := 15) (k := 14) (by decide), bx_uu] at hP hD
      have hP : va_P g.1 gx_cl (cW g ad so sw I n v (va_up (va_up us 14 (mt_wd n)) 15 (mt_wd n)) (va_up (va_up ct 14 f70) 15 f2)) H := hP
      have hD : va_D (gx_in (cW g ad so sw I n v us ct)) (cW g ad so sw I n v (va_up (va_up us 14 (mt_wd n)) 15 (mt_wd n)) (va_up (va_up ct 14 f70) 15 f2)) := hD
      refine lv_aload_n hx hb d_MG_findStepsThatBreak_73 rfl (lv_at hl 1 rfl) ?_
      refine va_get (D := g.1) (own := R_MG) (ref := R_MG) (ci := 2) (v := .ref (so 15)) (C := R_MG) (T := F_MG) (N := 6) hx hb hts in_MG hown hG.1 hP 0 rfl rfl 3 (by decide) (hts _ wd_96) (fun _ h9 => h9) rfl d_MG_findStepsThatBreak_74 ?_
      refine lv_iload_n hx hb d_MG_findStepsThatBreak_77 rfl (lv_at hl 2 rfl) ?_
      refine lv_aload_n hx hb d_MG_findStepsThatBreak_78 rfl (lv_at hl 1 rfl) ?_
      refine va_get (D := g.1) (own := R_MG) (ref := R_MG) (ci := 2) (v := .ref (ad 1)) (C := R_MG) (T := F_MG) (N := 6) hx hb hts in_MG hown hG.1 hP 0 rfl rfl 0 (by decide) (hts _ wd_91) (fun _ h9 => h9) rfl d_MG_findStepsThatBreak_79 ?_
      refine lv_iconst (v := nI 2) hx hb d_MG_findStepsThatBreak_82 (by decide) ?_
      refine lv_aload_n hx hb d_MG_findStepsThatBreak_83 rfl (lv_at hl 1 rfl) ?_
      refine va_get (D := g.1) (own := R_MG) (ref := R_MG) (ci := 2) (v := .ref (ad 1)) (C := R_MG) (T := F_MG) (N := 6) hx hb hts in_MG hown hG.1 hP 0 rfl rfl 0 (by decide) (hts _ wd_91) (fun _ h9 => h9) rfl d_MG_findStepsThatBreak_84 ?_
      refine va_getN (D := g.1) (own := R_MG) (ref := R_TT) (ci := 1) (v := .ref (ad 4)) (C := R_TT) (T := F_TT) (N := 6) hx hb hts in_TT hown hG.1 hP 1 rfl rfl 2 (by decide) (va_Nw.use rfl (hG.2.1 _ nw_2)) (fun _ h9 => h9) rfl d_MG_findStepsThatBreak_87 ?_
      refine lv_iload_n hx hb d_MG_findStepsThatBreak_90 rfl (lv_at hl 0 rfl) ?_
      refine vp_callSi (va_runV (own := R_MG) (As := [.int (nI 2), .ref (ad 4), .int (nI q)]) (rest := [.int (nI (mt_ar k n)), .ref (so 15)]) ⟨hx, hb, hml, hown, hts⟩ (c_TT_partHolds2 (l := l) (g := g) (ad := ad) (so := so) (sw := sw) (I := I) (n := n) (v := v) (us := (va_up (va_up us 14 (mt_wd n)) 15 (mt_wd n))) (ct := (va_up (va_up ct 14 f70) 15 f2)) (k := k) (a := a) (b := b) (ww := 2) (pp := q) hT hn hw (by decide) (by omega)) (cwV 3 hts (gx_goodV wd_211 wd_212 wd_213 wd_3 wd_214) rfl rfl rfl (by decide +kernel) ⟨Nat.le_of_ble_eq_true rfl, Nat.le_of_ble_eq_true rfl⟩) (gc_preV (gc_recv hP hG (ci := 1) rfl (q0 := 1) rfl) hP hG) rfl rfl hl.1 rfl (lv_room (Nat.le_of_ble_eq_true rfl)) d_MG_findStepsThatBreak_91 ⟨Nat.le_refl _, Nat.le_refl _⟩).run (fun r hr91 => ?_)
      subst hr91
      refine lv_iconst (v := -1) hx hb d_MG_findStepsThatBreak_94 (by decide) ?_
      refine lv_ixor hx hb d_MG_findStepsThatBreak_95 ?_
      refine lv_iand hx hb d_MG_findStepsThatBreak_96 ?_
      refine mt_ri (y := nI (mt_dif (mt_ar k n) (mt_ma (fun t => k t == 2 && Nat.testBit q (b t)) n))) (mt_andn _ _) ?_
      refine gc_caddE (u := mt_wd n) (f := f2) (by decide) (va_up_self _ _ _) (va_up_self _ _ _) (va_runV (own := R_MG) (As := [.int (nI (mt_dif (mt_ar k n) (mt_ma (fun t => k t == 2 && Nat.testBit q (b t)) n)))]) (rest := []) ⟨hx, hb, hml, hown, hts⟩ (c_PS_add (l := l) (g := g) (o := so 15) (w := sw 15) (cp := mt_cp 15) (u := mt_wd n) (f := f2) (x := mt_dif (mt_ar k n) (mt_ma (fun t => k t == 2 && Nat.testBit q (b t)) n)) (by have := mt_dif_le (mt_ar k n) (mt_ma (fun t => k t == 2 && Nat.testBit q (b t)) n); omega) (by first | omega | (rw [hu15]; exact mt_cp13 (by decide) (by decide) hn) | exact mt_cp13 (by decide) (by decide) hn) (mt_cp_le _)) (cwV 1 hts (gx_goodV wd_87 wd_88 wd_89 wd_4 wd_90) rfl rfl rfl (by decide +kernel) ⟨Nat.le_of_ble_eq_true rfl, Nat.le_of_ble_eq_true rfl⟩) (gc_preVW (gc_recv hP hG (ci := 0) rfl (cw_oE (k := 15) (u := mt_wd n) (by decide) (va_up_self _ _ _))) (cw_pickE hP (by decide) (va_up_self _ _ _) (va_up_self _ _ _)) hG (cw_pickDE hD (by decide) (va_up_self _ _ _) (va_up_self _ _ _))) rfl rfl hl.1 rfl (lv_room (Nat.le_of_ble_eq_true rfl)) d_MG_findStepsThatBreak_97 ⟨Nat.le_refl _, Nat.le_refl _⟩) hP hD hS (fun f97 H locs hf97 hP hD hS => ?_)
      rw [bx_uu] at hP hD
      have hP : va_P g.1 gx_cl (cW g ad so sw I n v (va_up (va_up us 14 (mt_wd n)) 15 (mt_wd n)) (va_up (va_up ct 14 f70) 15 f97)) H := hP
      have hD : va_D (gx_in (cW g ad so sw I n v us ct)) (cW g ad so sw I n v (va_up (va_up us 14 (mt_wd n)) 15 (mt_wd n)) (va_up (va_up ct 14 f70) 15 f97)) := hD
      refine lv_aload_n hx hb d_MG_findStepsThatBreak_100 rfl (lv_at hl 3 rfl) ?_
      refine lv_iload_n hx hb d_MG_findStepsThatBreak_101 rfl (lv_at hl 0 rfl) ?_
      refine lv_iconst (v := nI 1) hx hb d_MG_findStepsThatBreak_102 (by decide) ?_
      refine lv_iadd hx hb d_MG_findStepsThatBreak_103 ?_
      refine mt_ri (y := nI (q + 1)) (nI_add _ _) ?_
      refine vp_callSi (va_runV (own := R_MG) (As := [.int (nI (q + 1))]) (rest := []) ⟨hx, hb, hml, hown, hts⟩ (c_PS_nextFrom (l := l) (g := g) (o := so i) (w := sw i) (cp := mt_cp i) (u := ui) (f := Fi) (i := q + 1) (by omega) (by omega) (mt_cp_le _)) (cwV 1 hts (gx_goodV wd_200 wd_201 wd_202 wd_4 wd_203) rfl rfl rfl (by decide +kernel) ⟨Nat.le_of_ble_eq_true rfl, Nat.le_of_ble_eq_true rfl⟩) (gc_preV (gc_recv hP hG (ci := 0) rfl (cw_oE (k := i) (u := ui) (by omega) ((va_up_ne _ _ (by omega)).trans ((va_up_ne _ _ (by omega)).trans (hui))))) (cw_pickE hP (by omega) ((va_up_ne _ _ (by omega)).trans ((va_up_ne _ _ (by omega)).trans (hui))) ((va_up_ne _ _ (by omega)).trans ((va_up_ne _ _ (by omega)).trans (hfi)))) hG) rfl rfl hl.1 rfl (lv_room (Nat.le_of_ble_eq_true rfl)) d_MG_findStepsThatBreak_104 ⟨Nat.le_refl _, Nat.le_refl _⟩).run (fun r hr104 => ?_)
      obtain ⟨q104, hq104, hn104⟩ := hr104
      subst hq104
      have hcu104 := mt_nx_cu hn104
      refine lv_istore_n (lv' := [(3, .int (nI q104)), (0, .ref (ad 0)), (1, .int (nI (mt_ar k n))), (2, .ref (so i))]) hx hb d_MG_findStepsThatBreak_107 rfl hl (by decide) rfl (fun ls hl => ?_)
      refine lv_goto (tgt := 42) hx hb d_MG_findStepsThatBreak_108 (by decide) ?_
      exact ih42 _ (by have := hn104.1; omega) q104 f70 f97 ls _ _ rfl (hcu104.1) (hcu104.2) (mt_mp_s hm (hqS (by omega)) hn104 hf70) (mt_mp_s hm2 (hqS (by omega)) hn104 hf97) (lv_sub hl [0, 1, 2, 3] rfl) hP hD hS
  exact lp42 _ q38 f11 f33 ls _ _ rfl (hcu38.1) (hcu38.2) (mt_mp_0 hn38 (mt_none hf11)) (mt_mp_0 hn38 (mt_one hf25 hf33)) (lv_sub hl [0, 1, 2, 3] rfl) hP hD hS
