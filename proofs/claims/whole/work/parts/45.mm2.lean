set_option maxHeartbeats 4000000 in
set_option maxRecDepth 100000 in
theorem c_MM_rowOf0 {g : gG} {md : Nat → Nat} {J : Nat → Nat → Int32} {n v kn pr ar : Nat} {X : Nat → Int64} {k a b : Nat → Nat} {nn wh : Nat} {l : Launch} (hT : mt_MT J nn k a b) (hn13 : nn ≤ 13) (hw : mt_wf k a b nn) (hwh : wh < 6) :
    gc_RO l y_MM_rowOf (gx_ws y_MM_rowOf b_MM_rowOf 10 (some .int)) 0 0 g [.ref (md 0), .int (nI nn), .int (nI 0), .int (nI wh)] (mW g md J n v kn pr ar X) (fun r => r = nI (mt_pf k a b (mt_rc k a wh) nn)) := by
  refine gx_body (by decide) (Nat.le_of_ble_eq_true rfl) ?_
  intro p e s m below meth c ls hAt hB hl
  obtain ⟨hx, hb, hml, hown, hts, hr, hlk, hnm⟩ := hAt
  have hown : s.vm.findClass R_MM = some m.cls := hown
  obtain ⟨hP, hG⟩ := hB
  have hl : lv_has ls 10 [(0, .ref (md 0)), (1, .int (nI nn)), (2, .int (nI 0)), (3, .int (nI wh))] := hl
  refine lv_iconst (v := nI 0) hx hb d_MM_rowOf_0 (by decide) ?_
  refine lv_istore (lv' := [(4, .int (nI 0)), (0, .ref (md 0)), (1, .int (nI nn)), (2, .int (nI 0)), (3, .int (nI wh))]) hx hb d_MM_rowOf_1 hl (by decide) rfl (fun ls hl => ?_)
  refine lv_iconst (v := nI 0) hx hb d_MM_rowOf_3 (by decide) ?_
  refine lv_istore (lv' := [(5, .int (nI 0)), (4, .int (nI 0)), (0, .ref (md 0)), (1, .int (nI nn)), (2, .int (nI 0)), (3, .int (nI wh))]) hx hb d_MM_rowOf_4 hl (by decide) rfl (fun ls hl => ?_)
  have lp6 : ∀ (d : Nat) (i : Nat) (x : Nat) (ls : Array Slot), d = nn - i → (i ≤ nn) → (x = mt_pf k a b (mt_rc k a wh) i) → lv_has ls 10 [(5, .int (nI i)), (4, .int (nI x)), (0, .ref (md 0)), (1, .int (nI nn)), (2, .int (nI 0)), (3, .int (nI wh))] → W p l e (gx_rm 0 0) s m ([.ref (md 0), .int (nI nn), .int (nI 0), .int (nI wh)] : List Value).toArray below meth c s.heap [] 0 0 (MQ below (vp_Si (fun r => r = nI (mt_pf k a b (mt_rc k a wh) nn))) ([.ref (md 0), .int (nI nn), .int (nI 0), .int (nI wh)] : List Value).toArray s 0 0 (fun _ => False)) (F0 m 6 ls []) := by
    intro d
    induction d using Nat.strongRecOn with
    | ind d ih6 =>
    intro i x ls hd hi hx9 hl
    refine lv_iload hx hb d_MM_rowOf_6 (lv_at hl 0 rfl) ?_
    refine lv_iload_n hx hb d_MM_rowOf_8 rfl (lv_at hl 3 rfl) ?_
    refine lv_icmp_ge (tgt := 237) hx hb d_MM_rowOf_9 (by decide) (mt_le (by omega) (by omega) fun hc9 => ?_) (mt_nle (by omega) (by omega) fun hc9 => ?_)
    · ---- 9T
      refine lv_iload hx hb d_MM_rowOf_237 (lv_at hl 1 rfl) ?_
      exact gc_reti (post := fun r => r = nI (mt_pf k a b (mt_rc k a wh) nn)) hx hb hr hlk (by rw [hx9, show i = nn by omega]) d_MM_rowOf_239
    · ---- 9F
      have hw1 := hw i (by omega)
      have hx13 : x < 8192 := by rw [hx9]; exact mt_lt13 (mt_pf_lt _ _ _ _ _) (by omega)
      have hpl := mt_pl_le (k := k) i
      refine lv_aload_n hx hb d_MM_rowOf_12 rfl (lv_at hl 2 rfl) ?_
      refine va_get (D := g.1) (own := R_MM) (ref := R_MM) (ci := 5) (v := .ref (md 1)) (C := R_MM) (T := F_MM) (N := 16) hx hb hts in_MM hown hG.1 hP 0 rfl rfl 1 (by decide) (hts _ wd_384) (fun _ h9 => h9) rfl d_MM_rowOf_13 ?_
      refine lv_iload hx hb d_MM_rowOf_16 (lv_at hl 0 rfl) ?_
      refine va_iald hx hb hG.1 hP 1 0 rfl rfl (vp_in_nI (by omega) (by decide)) d_MM_rowOf_18 ?_
      refine mt_ri (y := nI (k i)) (by rw [nI_clamp (by omega)]; exact (hT _ (by omega)).1) ?_
      have hk7 : k i = 0 ∨ k i = 1 ∨ k i = 2 ∨ k i = 3 ∨ k i = 4 ∨ k i = 5 ∨ k i = 6 := by omega
      rcases hk7 with hkv | hkv | hkv | hkv | hkv | hkv | hkv
      · ---- 9F k0
        refine mt_ri (y := nI 0) (by rw [hkv]) ?_
        refine lv_istore (lv' := [(6, .int (nI 0)), (5, .int (nI i)), (4, .int (nI x)), (0, .ref (md 0)), (1, .int (nI nn)), (2, .int (nI 0)), (3, .int (nI wh))]) hx hb d_MM_rowOf_19 hl (by decide) rfl (fun ls hl => ?_)
        have ct42 : ∀ (z7 : Bool), z7 = x.testBit (a i % 32) → W p l e (gx_rm 0 0) s m ([.ref (md 0), .int (nI nn), .int (nI 0), .int (nI wh)] : List Value).toArray below meth c s.heap [] 0 0 (MQ below (vp_Si (fun r => r = nI (mt_pf k a b (mt_rc k a wh) nn))) ([.ref (md 0), .int (nI nn), .int (nI 0), .int (nI wh)] : List Value).toArray s 0 0 (fun _ => False)) (F0 m 42 ls [.int (mt_b z7)]) := by
          intro z7 hcut42
          refine lv_istore (lv' := [(7, .int (mt_b z7)), (6, .int (nI 0)), (5, .int (nI i)), (4, .int (nI x)), (0, .ref (md 0)), (1, .int (nI nn)), (2, .int (nI 0)), (3, .int (nI wh))]) hx hb d_MM_rowOf_42 hl (by decide) rfl (fun ls hl => ?_)
          have ct65 : ∀ (z8 : Bool), z8 = x.testBit (b i % 32) → W p l e (gx_rm 0 0) s m ([.ref (md 0), .int (nI nn), .int (nI 0), .int (nI wh)] : List Value).toArray below meth c s.heap [] 0 0 (MQ below (vp_Si (fun r => r = nI (mt_pf k a b (mt_rc k a wh) nn))) ([.ref (md 0), .int (nI nn), .int (nI 0), .int (nI wh)] : List Value).toArray s 0 0 (fun _ => False)) (F0 m 65 ls [.int (mt_b z8)]) := by
            intro z8 hcut65
            refine lv_istore (lv' := [(8, .int (mt_b z8)), (7, .int (mt_b z7)), (6, .int (nI 0)), (5, .int (nI i)), (4, .int (nI x)), (0, .ref (md 0)), (1, .int (nI nn)), (2, .int (nI 0)), (3, .int (nI wh))]) hx hb d_MM_rowOf_65 hl (by decide) rfl (fun ls hl => ?_)
            have hz7 := hcut42
            have hz8 := hcut65
            have hz9 := hz8
            refine lv_iload hx hb d_MM_rowOf_67 (lv_at hl 2 rfl) ?_
            refine lv_bipush (v := nI 6) hx hb d_MM_rowOf_69 (by decide) ?_
            refine lv_icmp_eq (tgt := 117) hx hb d_MM_rowOf_71 (by decide) (fun h9 => absurd h9 (by decide)) (fun _ => ?_)
            refine lv_iload hx hb d_MM_rowOf_74 (lv_at hl 2 rfl) ?_
            refine lv_iconst (v := nI 3) hx hb d_MM_rowOf_76 (by decide) ?_
            refine lv_icmp_ne (tgt := 90) hx hb d_MM_rowOf_77 (by decide) (fun _ => ?_) (fun h9 => absurd h9 (by decide))
            refine lv_iload hx hb d_MM_rowOf_90 (lv_at hl 2 rfl) ?_
            refine lv_iconst (v := nI 4) hx hb d_MM_rowOf_92 (by decide) ?_
            refine lv_icmp_ne (tgt := 106) hx hb d_MM_rowOf_93 (by decide) (fun _ => ?_) (fun h9 => absurd h9 (by decide))
            refine lv_iload hx hb d_MM_rowOf_106 (lv_at hl 2 rfl) ?_
            refine lv_iconst (v := nI 5) hx hb d_MM_rowOf_108 (by decide) ?_
            refine lv_icmp_ne (tgt := 121) hx hb d_MM_rowOf_109 (by decide) (fun _ => ?_) (fun h9 => absurd h9 (by decide))
            refine lv_iconst (v := nI 0) hx hb d_MM_rowOf_121 (by decide) ?_
            refine lv_istore (lv' := [(9, .int (nI 0)), (8, .int (mt_b z8)), (7, .int (mt_b z7)), (6, .int (nI 0)), (5, .int (nI i)), (4, .int (nI x)), (0, .ref (md 0)), (1, .int (nI nn)), (2, .int (nI 0)), (3, .int (nI wh))]) hx hb d_MM_rowOf_122 hl (by decide) rfl (fun ls hl => ?_)
            refine lv_iload hx hb d_MM_rowOf_124 (lv_at hl 0 rfl) ?_
            refine lv_if_ne (tgt := 205) hx hb d_MM_rowOf_126 (by decide) (fun h9 => absurd h9 (by decide)) (fun _ => ?_)
            refine lv_iload hx hb d_MM_rowOf_129 (lv_at hl 3 rfl) ?_
            refine lv_if_ne (tgt := 153) hx hb d_MM_rowOf_131 (by decide) (fun h9 => absurd h9 (by decide)) (fun _ => ?_)
            refine lv_iload_n hx hb d_MM_rowOf_134 rfl (lv_at hl 8 rfl) ?_
            refine lv_if_ne (tgt := 153) hx hb d_MM_rowOf_135 (by decide) (fun h9 => absurd h9 (by decide)) (fun _ => ?_)
            refine lv_aload_n hx hb d_MM_rowOf_138 rfl (lv_at hl 6 rfl) ?_
            refine va_get (D := g.1) (own := R_MM) (ref := R_MM) (ci := 5) (v := .ref (md 2)) (C := R_MM) (T := F_MM) (N := 16) hx hb hts in_MM hown hG.1 hP 0 rfl rfl 2 (by decide) (hts _ wd_385) (fun _ h9 => h9) rfl d_MM_rowOf_139 ?_
            refine lv_iload hx hb d_MM_rowOf_142 (lv_at hl 4 rfl) ?_
            refine va_iald hx hb hG.1 hP 2 0 rfl rfl (vp_in_nI (by omega) (by decide)) d_MM_rowOf_144 ?_
            refine mt_ri (y := nI (a i)) (by rw [nI_clamp (by omega)]; exact (hT _ (by omega)).2.1) ?_
            refine lv_iload_n hx hb d_MM_rowOf_145 rfl (lv_at hl 9 rfl) ?_
            refine lv_ishr hx hb d_MM_rowOf_146 ?_
            refine lv_iconst (v := nI 1) hx hb d_MM_rowOf_147 (by decide) ?_
            refine lv_iand hx hb d_MM_rowOf_148 ?_
            refine mt_ri (y := mt_b (Nat.testBit (a i) wh)) (mt_bit1 (by omega) (by omega)) ?_
            refine lv_iconst (v := nI 1) hx hb d_MM_rowOf_149 (by decide) ?_
            refine lv_icmp_eq (tgt := 205) hx hb d_MM_rowOf_150 (by decide) (mt_b1 fun hc150 => ?_) (mt_nb1 fun hc150 => ?_)
            · ---- 9F k0 150T
              refine lv_iconst (v := nI 1) hx hb d_MM_rowOf_205 (by decide) ?_
              refine lv_goto (tgt := 210) hx hb d_MM_rowOf_206 (by decide) ?_
              refine lv_istore (lv' := [(9, .int (nI 1)), (8, .int (mt_b z8)), (7, .int (mt_b z7)), (6, .int (nI 0)), (5, .int (nI i)), (4, .int (nI x)), (0, .ref (md 0)), (1, .int (nI nn)), (2, .int (nI 0)), (3, .int (nI wh))]) hx hb d_MM_rowOf_210 hl (by decide) rfl (fun ls hl => ?_)
              refine lv_iload hx hb d_MM_rowOf_212 (lv_at hl 0 rfl) ?_
              refine lv_if_eq (tgt := 227) hx hb d_MM_rowOf_214 (by decide) (fun h9 => absurd h9 (by decide)) (fun _ => ?_)
              refine lv_iload hx hb d_MM_rowOf_217 (lv_at hl 5 rfl) ?_
              refine lv_iconst (v := nI 1) hx hb d_MM_rowOf_219 (by decide) ?_
              refine lv_iload hx hb d_MM_rowOf_220 (lv_at hl 4 rfl) ?_
              refine lv_ishl hx hb d_MM_rowOf_222 ?_
              refine mt_ri (y := nI (2 ^ i)) (mt_shl (by omega)) ?_
              refine lv_ior hx hb d_MM_rowOf_223 ?_
              refine mt_ri (y := nI (x ||| (2 ^ i))) (mt_or _ _) ?_
              refine lv_goto (tgt := 229) hx hb d_MM_rowOf_224 (by decide) ?_
              refine lv_istore (lv' := [(4, .int (nI (x ||| (2 ^ i)))), (9, .int (nI 1)), (8, .int (mt_b z8)), (7, .int (mt_b z7)), (6, .int (nI 0)), (5, .int (nI i)), (0, .ref (md 0)), (1, .int (nI nn)), (2, .int (nI 0)), (3, .int (nI wh))]) hx hb d_MM_rowOf_229 hl (by decide) rfl (fun ls hl => ?_)
              refine lv_iinc (k := 5) (v := nI (i + 1)) (lv' := [(5, .int (nI (i + 1))), (4, .int (nI (x ||| (2 ^ i)))), (9, .int (nI 1)), (8, .int (mt_b z8)), (7, .int (mt_b z7)), (6, .int (nI 0)), (0, .ref (md 0)), (1, .int (nI nn)), (2, .int (nI 0)), (3, .int (nI wh))]) hx hb d_MM_rowOf_231 hl rfl (by rw [lit1]; exact nI_1 _) (by decide) rfl (fun ls hl => ?_)
              refine lv_goto (tgt := 6) hx hb d_MM_rowOf_234 (by decide) ?_
              exact ih6 _ (by omega) (i + 1) (x ||| (2 ^ i)) ls rfl (by omega) (mt_pf_t hx9 (by simp [mt_in, hkv, mt_rc, hc150])) (lv_sub hl [0, 1, 6, 7, 8, 9] rfl)
            · ---- 9F k0 150F
              refine lv_iload hx hb d_MM_rowOf_153 (lv_at hl 3 rfl) ?_
              refine lv_iconst (v := nI 1) hx hb d_MM_rowOf_155 (by decide) ?_
              refine lv_icmp_ne (tgt := 179) hx hb d_MM_rowOf_156 (by decide) (fun _ => ?_) (fun h9 => absurd h9 (by decide))
              refine lv_iload hx hb d_MM_rowOf_179 (lv_at hl 3 rfl) ?_
              refine lv_iconst (v := nI 2) hx hb d_MM_rowOf_181 (by decide) ?_
              refine lv_icmp_ne (tgt := 209) hx hb d_MM_rowOf_182 (by decide) (fun _ => ?_) (fun h9 => absurd h9 (by decide))
              refine lv_iconst (v := nI 0) hx hb d_MM_rowOf_209 (by decide) ?_
              refine lv_istore (lv' := [(9, .int (nI 0)), (8, .int (mt_b z8)), (7, .int (mt_b z7)), (6, .int (nI 0)), (5, .int (nI i)), (4, .int (nI x)), (0, .ref (md 0)), (1, .int (nI nn)), (2, .int (nI 0)), (3, .int (nI wh))]) hx hb d_MM_rowOf_210 hl (by decide) rfl (fun ls hl => ?_)
              refine lv_iload hx hb d_MM_rowOf_212 (lv_at hl 0 rfl) ?_
              refine lv_if_eq (tgt := 227) hx hb d_MM_rowOf_214 (by decide) (fun _ => ?_) (fun h9 => absurd h9 (by decide))
              refine lv_iload hx hb d_MM_rowOf_227 (lv_at hl 5 rfl) ?_
              refine lv_istore (lv' := [(4, .int (nI x)), (9, .int (nI 0)), (8, .int (mt_b z8)), (7, .int (mt_b z7)), (6, .int (nI 0)), (5, .int (nI i)), (0, .ref (md 0)), (1, .int (nI nn)), (2, .int (nI 0)), (3, .int (nI wh))]) hx hb d_MM_rowOf_229 hl (by decide) rfl (fun ls hl => ?_)
              refine lv_iinc (k := 5) (v := nI (i + 1)) (lv' := [(5, .int (nI (i + 1))), (4, .int (nI x)), (9, .int (nI 0)), (8, .int (mt_b z8)), (7, .int (mt_b z7)), (6, .int (nI 0)), (0, .ref (md 0)), (1, .int (nI nn)), (2, .int (nI 0)), (3, .int (nI wh))]) hx hb d_MM_rowOf_231 hl rfl (by rw [lit1]; exact nI_1 _) (by decide) rfl (fun ls hl => ?_)
              refine lv_goto (tgt := 6) hx hb d_MM_rowOf_234 (by decide) ?_
              exact ih6 _ (by omega) (i + 1) x ls rfl (by omega) (mt_pf_f hx9 (by simp [mt_in, hkv, mt_rc, hc150])) (lv_sub hl [0, 1, 6, 7, 8, 9] rfl)
          refine lv_iload hx hb d_MM_rowOf_44 (lv_at hl 3 rfl) ?_
          refine lv_aload_n hx hb d_MM_rowOf_46 rfl (lv_at hl 4 rfl) ?_
          refine va_get (D := g.1) (own := R_MM) (ref := R_MM) (ci := 5) (v := .ref (md 3)) (C := R_MM) (T := F_MM) (N := 16) hx hb hts in_MM hown hG.1 hP 0 rfl rfl 3 (by decide) (hts _ wd_386) (fun _ h9 => h9) rfl d_MM_rowOf_47 ?_
          refine lv_iload hx hb d_MM_rowOf_50 (lv_at hl 2 rfl) ?_
          refine va_iald hx hb hG.1 hP 3 0 rfl rfl (vp_in_nI (by omega) (by decide)) d_MM_rowOf_52 ?_
          refine mt_ri (y := nI (b i)) (by rw [nI_clamp (by omega)]; exact (hT _ (by omega)).2.2) ?_
          refine lv_ishr hx hb d_MM_rowOf_53 ?_
          refine lv_iconst (v := nI 1) hx hb d_MM_rowOf_54 (by decide) ?_
          refine lv_iand hx hb d_MM_rowOf_55 ?_
          refine mt_ri (y := mt_b (Nat.testBit x ((b i) % 32))) (mt_bit32 (by omega) (by omega)) ?_
          refine lv_iconst (v := nI 1) hx hb d_MM_rowOf_56 (by decide) ?_
          refine lv_icmp_ne (tgt := 64) hx hb d_MM_rowOf_57 (by decide) (mt_nb1 fun hc57 => ?_) (mt_b1 fun hc57 => ?_)
          · ---- 9F k0 57T
            refine lv_iconst (v := nI 0) hx hb d_MM_rowOf_64 (by decide) ?_
            exact ct65 false (hc57.symm)
          · ---- 9F k0 57F
            refine lv_iconst (v := nI 1) hx hb d_MM_rowOf_60 (by decide) ?_
            refine lv_goto (tgt := 65) hx hb d_MM_rowOf_61 (by decide) ?_
            exact ct65 true (hc57.symm)
        refine lv_iload hx hb d_MM_rowOf_21 (lv_at hl 2 rfl) ?_
        refine lv_aload_n hx hb d_MM_rowOf_23 rfl (lv_at hl 3 rfl) ?_
        refine va_get (D := g.1) (own := R_MM) (ref := R_MM) (ci := 5) (v := .ref (md 2)) (C := R_MM) (T := F_MM) (N := 16) hx hb hts in_MM hown hG.1 hP 0 rfl rfl 2 (by decide) (hts _ wd_385) (fun _ h9 => h9) rfl d_MM_rowOf_24 ?_
        refine lv_iload hx hb d_MM_rowOf_27 (lv_at hl 1 rfl) ?_
        refine va_iald hx hb hG.1 hP 2 0 rfl rfl (vp_in_nI (by omega) (by decide)) d_MM_rowOf_29 ?_
        refine mt_ri (y := nI (a i)) (by rw [nI_clamp (by omega)]; exact (hT _ (by omega)).2.1) ?_
        refine lv_ishr hx hb d_MM_rowOf_30 ?_
        refine lv_iconst (v := nI 1) hx hb d_MM_rowOf_31 (by decide) ?_
        refine lv_iand hx hb d_MM_rowOf_32 ?_
        refine mt_ri (y := mt_b (Nat.testBit x ((a i) % 32))) (mt_bit32 (by omega) (by omega)) ?_
        refine lv_iconst (v := nI 1) hx hb d_MM_rowOf_33 (by decide) ?_
        refine lv_icmp_ne (tgt := 41) hx hb d_MM_rowOf_34 (by decide) (mt_nb1 fun hc34 => ?_) (mt_b1 fun hc34 => ?_)
        · ---- 9F k0 34T
          refine lv_iconst (v := nI 0) hx hb d_MM_rowOf_41 (by decide) ?_
          exact ct42 false (hc34.symm)
        · ---- 9F k0 34F
          refine lv_iconst (v := nI 1) hx hb d_MM_rowOf_37 (by decide) ?_
          refine lv_goto (tgt := 42) hx hb d_MM_rowOf_38 (by decide) ?_
          exact ct42 true (hc34.symm)
      · ---- 9F k1
        refine mt_ri (y := nI 1) (by rw [hkv]) ?_
        refine lv_istore (lv' := [(6, .int (nI 1)), (5, .int (nI i)), (4, .int (nI x)), (0, .ref (md 0)), (1, .int (nI nn)), (2, .int (nI 0)), (3, .int (nI wh))]) hx hb d_MM_rowOf_19 hl (by decide) rfl (fun ls hl => ?_)
        have ct42 : ∀ (z7 : Bool), z7 = x.testBit (a i % 32) → W p l e (gx_rm 0 0) s m ([.ref (md 0), .int (nI nn), .int (nI 0), .int (nI wh)] : List Value).toArray below meth c s.heap [] 0 0 (MQ below (vp_Si (fun r => r = nI (mt_pf k a b (mt_rc k a wh) nn))) ([.ref (md 0), .int (nI nn), .int (nI 0), .int (nI wh)] : List Value).toArray s 0 0 (fun _ => False)) (F0 m 42 ls [.int (mt_b z7)]) := by
          intro z7 hcut42
          refine lv_istore (lv' := [(7, .int (mt_b z7)), (6, .int (nI 1)), (5, .int (nI i)), (4, .int (nI x)), (0, .ref (md 0)), (1, .int (nI nn)), (2, .int (nI 0)), (3, .int (nI wh))]) hx hb d_MM_rowOf_42 hl (by decide) rfl (fun ls hl => ?_)
          have ct65 : ∀ (z8 : Bool), z8 = x.testBit (b i % 32) → W p l e (gx_rm 0 0) s m ([.ref (md 0), .int (nI nn), .int (nI 0), .int (nI wh)] : List Value).toArray below meth c s.heap [] 0 0 (MQ below (vp_Si (fun r => r = nI (mt_pf k a b (mt_rc k a wh) nn))) ([.ref (md 0), .int (nI nn), .int (nI 0), .int (nI wh)] : List Value).toArray s 0 0 (fun _ => False)) (F0 m 65 ls [.int (mt_b z8)]) := by
            intro z8 hcut65
            refine lv_istore (lv' := [(8, .int (mt_b z8)), (7, .int (mt_b z7)), (6, .int (nI 1)), (5, .int (nI i)), (4, .int (nI x)), (0, .ref (md 0)), (1, .int (nI nn)), (2, .int (nI 0)), (3, .int (nI wh))]) hx hb d_MM_rowOf_65 hl (by decide) rfl (fun ls hl => ?_)
            have hz7 := hcut42
            have hz8 := hcut65
            have hz9 := hz8
            refine lv_iload hx hb d_MM_rowOf_67 (lv_at hl 2 rfl) ?_
            refine lv_bipush (v := nI 6) hx hb d_MM_rowOf_69 (by decide) ?_
            refine lv_icmp_eq (tgt := 117) hx hb d_MM_rowOf_71 (by decide) (fun h9 => absurd h9 (by decide)) (fun _ => ?_)
            refine lv_iload hx hb d_MM_rowOf_74 (lv_at hl 2 rfl) ?_
            refine lv_iconst (v := nI 3) hx hb d_MM_rowOf_76 (by decide) ?_
            refine lv_icmp_ne (tgt := 90) hx hb d_MM_rowOf_77 (by decide) (fun _ => ?_) (fun h9 => absurd h9 (by decide))
            refine lv_iload hx hb d_MM_rowOf_90 (lv_at hl 2 rfl) ?_
            refine lv_iconst (v := nI 4) hx hb d_MM_rowOf_92 (by decide) ?_
            refine lv_icmp_ne (tgt := 106) hx hb d_MM_rowOf_93 (by decide) (fun _ => ?_) (fun h9 => absurd h9 (by decide))
            refine lv_iload hx hb d_MM_rowOf_106 (lv_at hl 2 rfl) ?_
            refine lv_iconst (v := nI 5) hx hb d_MM_rowOf_108 (by decide) ?_
            refine lv_icmp_ne (tgt := 121) hx hb d_MM_rowOf_109 (by decide) (fun _ => ?_) (fun h9 => absurd h9 (by decide))
            refine lv_iconst (v := nI 0) hx hb d_MM_rowOf_121 (by decide) ?_
            refine lv_istore (lv' := [(9, .int (nI 0)), (8, .int (mt_b z8)), (7, .int (mt_b z7)), (6, .int (nI 1)), (5, .int (nI i)), (4, .int (nI x)), (0, .ref (md 0)), (1, .int (nI nn)), (2, .int (nI 0)), (3, .int (nI wh))]) hx hb d_MM_rowOf_122 hl (by decide) rfl (fun ls hl => ?_)
            refine lv_iload hx hb d_MM_rowOf_124 (lv_at hl 0 rfl) ?_
            refine lv_if_ne (tgt := 205) hx hb d_MM_rowOf_126 (by decide) (fun h9 => absurd h9 (by decide)) (fun _ => ?_)
            refine lv_iload hx hb d_MM_rowOf_129 (lv_at hl 3 rfl) ?_
            refine lv_if_ne (tgt := 153) hx hb d_MM_rowOf_131 (by decide) (fun _ => ?_) (fun h9 => absurd h9 (by decide))
            refine lv_iload hx hb d_MM_rowOf_153 (lv_at hl 3 rfl) ?_
            refine lv_iconst (v := nI 1) hx hb d_MM_rowOf_155 (by decide) ?_
            refine lv_icmp_ne (tgt := 179) hx hb d_MM_rowOf_156 (by decide) (fun h9 => absurd h9 (by decide)) (fun _ => ?_)
            refine lv_iload_n hx hb d_MM_rowOf_159 rfl (lv_at hl 8 rfl) ?_
            refine lv_iconst (v := nI 1) hx hb d_MM_rowOf_160 (by decide) ?_
            refine lv_icmp_ne (tgt := 179) hx hb d_MM_rowOf_161 (by decide) (fun _ => ?_) (fun h9 => absurd h9 (by decide))
            refine lv_iload hx hb d_MM_rowOf_179 (lv_at hl 3 rfl) ?_
            refine lv_iconst (v := nI 2) hx hb d_MM_rowOf_181 (by decide) ?_
            refine lv_icmp_ne (tgt := 209) hx hb d_MM_rowOf_182 (by decide) (fun _ => ?_) (fun h9 => absurd h9 (by decide))
            refine lv_iconst (v := nI 0) hx hb d_MM_rowOf_209 (by decide) ?_
            refine lv_istore (lv' := [(9, .int (nI 0)), (8, .int (mt_b z8)), (7, .int (mt_b z7)), (6, .int (nI 1)), (5, .int (nI i)), (4, .int (nI x)), (0, .ref (md 0)), (1, .int (nI nn)), (2, .int (nI 0)), (3, .int (nI wh))]) hx hb d_MM_rowOf_210 hl (by decide) rfl (fun ls hl => ?_)
            refine lv_iload hx hb d_MM_rowOf_212 (lv_at hl 0 rfl) ?_
            refine lv_if_eq (tgt := 227) hx hb d_MM_rowOf_214 (by decide) (fun _ => ?_) (fun h9 => absurd h9 (by decide))
            refine lv_iload hx hb d_MM_rowOf_227 (lv_at hl 5 rfl) ?_
            refine lv_istore (lv' := [(4, .int (nI x)), (9, .int (nI 0)), (8, .int (mt_b z8)), (7, .int (mt_b z7)), (6, .int (nI 1)), (5, .int (nI i)), (0, .ref (md 0)), (1, .int (nI nn)), (2, .int (nI 0)), (3, .int (nI wh))]) hx hb d_MM_rowOf_229 hl (by decide) rfl (fun ls hl => ?_)
            refine lv_iinc (k := 5) (v := nI (i + 1)) (lv' := [(5, .int (nI (i + 1))), (4, .int (nI x)), (9, .int (nI 0)), (8, .int (mt_b z8)), (7, .int (mt_b z7)), (6, .int (nI 1)), (0, .ref (md 0)), (1, .int (nI nn)), (2, .int (nI 0)), (3, .int (nI wh))]) hx hb d_MM_rowOf_231 hl rfl (by rw [lit1]; exact nI_1 _) (by decide) rfl (fun ls hl => ?_)
            refine lv_goto (tgt := 6) hx hb d_MM_rowOf_234 (by decide) ?_
            exact ih6 _ (by omega) (i + 1) x ls rfl (by omega) (mt_pf_f hx9 (by simp [mt_in, hkv, mt_rc])) (lv_sub hl [0, 1, 6, 7, 8, 9] rfl)
          refine lv_iload hx hb d_MM_rowOf_44 (lv_at hl 3 rfl) ?_
          refine lv_aload_n hx hb d_MM_rowOf_46 rfl (lv_at hl 4 rfl) ?_
          refine va_get (D := g.1) (own := R_MM) (ref := R_MM) (ci := 5) (v := .ref (md 3)) (C := R_MM) (T := F_MM) (N := 16) hx hb hts in_MM hown hG.1 hP 0 rfl rfl 3 (by decide) (hts _ wd_386) (fun _ h9 => h9) rfl d_MM_rowOf_47 ?_
          refine lv_iload hx hb d_MM_rowOf_50 (lv_at hl 2 rfl) ?_
          refine va_iald hx hb hG.1 hP 3 0 rfl rfl (vp_in_nI (by omega) (by decide)) d_MM_rowOf_52 ?_
          refine mt_ri (y := nI (b i)) (by rw [nI_clamp (by omega)]; exact (hT _ (by omega)).2.2) ?_
          refine lv_ishr hx hb d_MM_rowOf_53 ?_
          refine lv_iconst (v := nI 1) hx hb d_MM_rowOf_54 (by decide) ?_
          refine lv_iand hx hb d_MM_rowOf_55 ?_
          refine mt_ri (y := mt_b (Nat.testBit x ((b i) % 32))) (mt_bit32 (by omega) (by omega)) ?_
          refine lv_iconst (v := nI 1) hx hb d_MM_rowOf_56 (by decide) ?_
          refine lv_icmp_ne (tgt := 64) hx hb d_MM_rowOf_57 (by decide) (mt_nb1 fun hc57 => ?_) (mt_b1 fun hc57 => ?_)
          · ---- 9F k1 57T
            refine lv_iconst (v := nI 0) hx hb d_MM_rowOf_64 (by decide) ?_
            exact ct65 false (hc57.symm)
          · ---- 9F k1 57F
            refine lv_iconst (v := nI 1) hx hb d_MM_rowOf_60 (by decide) ?_
            refine lv_goto (tgt := 65) hx hb d_MM_rowOf_61 (by decide) ?_
            exact ct65 true (hc57.symm)
        refine lv_iload hx hb d_MM_rowOf_21 (lv_at hl 2 rfl) ?_
        refine lv_aload_n hx hb d_MM_rowOf_23 rfl (lv_at hl 3 rfl) ?_
        refine va_get (D := g.1) (own := R_MM) (ref := R_MM) (ci := 5) (v := .ref (md 2)) (C := R_MM) (T := F_MM) (N := 16) hx hb hts in_MM hown hG.1 hP 0 rfl rfl 2 (by decide) (hts _ wd_385) (fun _ h9 => h9) rfl d_MM_rowOf_24 ?_
        refine lv_iload hx hb d_MM_rowOf_27 (lv_at hl 1 rfl) ?_
        refine va_iald hx hb hG.1 hP 2 0 rfl rfl (vp_in_nI (by omega) (by decide)) d_MM_rowOf_29 ?_
        refine mt_ri (y := nI (a i)) (by rw [nI_clamp (by omega)]; exact (hT _ (by omega)).2.1) ?_
        refine lv_ishr hx hb d_MM_rowOf_30 ?_
        refine lv_iconst (v := nI 1) hx hb d_MM_rowOf_31 (by decide) ?_
        refine lv_iand hx hb d_MM_rowOf_32 ?_
        refine mt_ri (y := mt_b (Nat.testBit x ((a i) % 32))) (mt_bit32 (by omega) (by omega)) ?_
        refine lv_iconst (v := nI 1) hx hb d_MM_rowOf_33 (by decide) ?_
        refine lv_icmp_ne (tgt := 41) hx hb d_MM_rowOf_34 (by decide) (mt_nb1 fun hc34 => ?_) (mt_b1 fun hc34 => ?_)
        · ---- 9F k1 34T
          refine lv_iconst (v := nI 0) hx hb d_MM_rowOf_41 (by decide) ?_
          exact ct42 false (hc34.symm)
        · ---- 9F k1 34F
          refine lv_iconst (v := nI 1) hx hb d_MM_rowOf_37 (by decide) ?_
          refine lv_goto (tgt := 42) hx hb d_MM_rowOf_38 (by decide) ?_
          exact ct42 true (hc34.symm)
      · ---- 9F k2
        refine mt_ri (y := nI 2) (by rw [hkv]) ?_
        refine lv_istore (lv' := [(6, .int (nI 2)), (5, .int (nI i)), (4, .int (nI x)), (0, .ref (md 0)), (1, .int (nI nn)), (2, .int (nI 0)), (3, .int (nI wh))]) hx hb d_MM_rowOf_19 hl (by decide) rfl (fun ls hl => ?_)
        have ct42 : ∀ (z7 : Bool), z7 = x.testBit (a i % 32) → W p l e (gx_rm 0 0) s m ([.ref (md 0), .int (nI nn), .int (nI 0), .int (nI wh)] : List Value).toArray below meth c s.heap [] 0 0 (MQ below (vp_Si (fun r => r = nI (mt_pf k a b (mt_rc k a wh) nn))) ([.ref (md 0), .int (nI nn), .int (nI 0), .int (nI wh)] : List Value).toArray s 0 0 (fun _ => False)) (F0 m 42 ls [.int (mt_b z7)]) := by
          intro z7 hcut42
          refine lv_istore (lv' := [(7, .int (mt_b z7)), (6, .int (nI 2)), (5, .int (nI i)), (4, .int (nI x)), (0, .ref (md 0)), (1, .int (nI nn)), (2, .int (nI 0)), (3, .int (nI wh))]) hx hb d_MM_rowOf_42 hl (by decide) rfl (fun ls hl => ?_)
          have ct65 : ∀ (z8 : Bool), z8 = x.testBit (b i % 32) → W p l e (gx_rm 0 0) s m ([.ref (md 0), .int (nI nn), .int (nI 0), .int (nI wh)] : List Value).toArray below meth c s.heap [] 0 0 (MQ below (vp_Si (fun r => r = nI (mt_pf k a b (mt_rc k a wh) nn))) ([.ref (md 0), .int (nI nn), .int (nI 0), .int (nI wh)] : List Value).toArray s 0 0 (fun _ => False)) (F0 m 65 ls [.int (mt_b z8)]) := by
            intro z8 hcut65
            refine lv_istore (lv' := [(8, .int (mt_b z8)), (7, .int (mt_b z7)), (6, .int (nI 2)), (5, .int (nI i)), (4, .int (nI x)), (0, .ref (md 0)), (1, .int (nI nn)), (2, .int (nI 0)), (3, .int (nI wh))]) hx hb d_MM_rowOf_65 hl (by decide) rfl (fun ls hl => ?_)
            have hz7 := hcut42
            have hz8 := hcut65
            have hz9 := hz8
            refine lv_iload hx hb d_MM_rowOf_67 (lv_at hl 2 rfl) ?_
            refine lv_bipush (v := nI 6) hx hb d_MM_rowOf_69 (by decide) ?_
            refine lv_icmp_eq (tgt := 117) hx hb d_MM_rowOf_71 (by decide) (fun h9 => absurd h9 (by decide)) (fun _ => ?_)
            refine lv_iload hx hb d_MM_rowOf_74 (lv_at hl 2 rfl) ?_
            refine lv_iconst (v := nI 3) hx hb d_MM_rowOf_76 (by decide) ?_
            refine lv_icmp_ne (tgt := 90) hx hb d_MM_rowOf_77 (by decide) (fun _ => ?_) (fun h9 => absurd h9 (by decide))
            refine lv_iload hx hb d_MM_rowOf_90 (lv_at hl 2 rfl) ?_
            refine lv_iconst (v := nI 4) hx hb d_MM_rowOf_92 (by decide) ?_
            refine lv_icmp_ne (tgt := 106) hx hb d_MM_rowOf_93 (by decide) (fun _ => ?_) (fun h9 => absurd h9 (by decide))
            refine lv_iload hx hb d_MM_rowOf_106 (lv_at hl 2 rfl) ?_
            refine lv_iconst (v := nI 5) hx hb d_MM_rowOf_108 (by decide) ?_
            refine lv_icmp_ne (tgt := 121) hx hb d_MM_rowOf_109 (by decide) (fun _ => ?_) (fun h9 => absurd h9 (by decide))
            refine lv_iconst (v := nI 0) hx hb d_MM_rowOf_121 (by decide) ?_
            refine lv_istore (lv' := [(9, .int (nI 0)), (8, .int (mt_b z8)), (7, .int (mt_b z7)), (6, .int (nI 2)), (5, .int (nI i)), (4, .int (nI x)), (0, .ref (md 0)), (1, .int (nI nn)), (2, .int (nI 0)), (3, .int (nI wh))]) hx hb d_MM_rowOf_122 hl (by decide) rfl (fun ls hl => ?_)
            refine lv_iload hx hb d_MM_rowOf_124 (lv_at hl 0 rfl) ?_
            refine lv_if_ne (tgt := 205) hx hb d_MM_rowOf_126 (by decide) (fun h9 => absurd h9 (by decide)) (fun _ => ?_)
            refine lv_iload hx hb d_MM_rowOf_129 (lv_at hl 3 rfl) ?_
            refine lv_if_ne (tgt := 153) hx hb d_MM_rowOf_131 (by decide) (fun _ => ?_) (fun h9 => absurd h9 (by decide))
            refine lv_iload hx hb d_MM_rowOf_153 (lv_at hl 3 rfl) ?_
            refine lv_iconst (v := nI 1) hx hb d_MM_rowOf_155 (by decide) ?_
            refine lv_icmp_ne (tgt := 179) hx hb d_MM_rowOf_156 (by decide) (fun _ => ?_) (fun h9 => absurd h9 (by decide))
            refine lv_iload hx hb d_MM_rowOf_179 (lv_at hl 3 rfl) ?_
            refine lv_iconst (v := nI 2) hx hb d_MM_rowOf_181 (by decide) ?_
            refine lv_icmp_ne (tgt := 209) hx hb d_MM_rowOf_182 (by decide) (fun h9 => absurd h9 (by decide)) (fun _ => ?_)
            refine lv_iload_n hx hb d_MM_rowOf_185 rfl (lv_at hl 8 rfl) ?_
            refine lv_iconst (v := nI 2) hx hb d_MM_rowOf_186 (by decide) ?_
            refine lv_icmp_ne (tgt := 209) hx hb d_MM_rowOf_187 (by decide) (fun _ => ?_) (fun h9 => absurd h9 (by decide))
            refine lv_iconst (v := nI 0) hx hb d_MM_rowOf_209 (by decide) ?_
            refine lv_istore (lv' := [(9, .int (nI 0)), (8, .int (mt_b z8)), (7, .int (mt_b z7)), (6, .int (nI 2)), (5, .int (nI i)), (4, .int (nI x)), (0, .ref (md 0)), (1, .int (nI nn)), (2, .int (nI 0)), (3, .int (nI wh))]) hx hb d_MM_rowOf_210 hl (by decide) rfl (fun ls hl => ?_)
            refine lv_iload hx hb d_MM_rowOf_212 (lv_at hl 0 rfl) ?_
            refine lv_if_eq (tgt := 227) hx hb d_MM_rowOf_214 (by decide) (fun _ => ?_) (fun h9 => absurd h9 (by decide))
            refine lv_iload hx hb d_MM_rowOf_227 (lv_at hl 5 rfl) ?_
            refine lv_istore (lv' := [(4, .int (nI x)), (9, .int (nI 0)), (8, .int (mt_b z8)), (7, .int (mt_b z7)), (6, .int (nI 2)), (5, .int (nI i)), (0, .ref (md 0)), (1, .int (nI nn)), (2, .int (nI 0)), (3, .int (nI wh))]) hx hb d_MM_rowOf_229 hl (by decide) rfl (fun ls hl => ?_)
            refine lv_iinc (k := 5) (v := nI (i + 1)) (lv' := [(5, .int (nI (i + 1))), (4, .int (nI x)), (9, .int (nI 0)), (8, .int (mt_b z8)), (7, .int (mt_b z7)), (6, .int (nI 2)), (0, .ref (md 0)), (1, .int (nI nn)), (2, .int (nI 0)), (3, .int (nI wh))]) hx hb d_MM_rowOf_231 hl rfl (by rw [lit1]; exact nI_1 _) (by decide) rfl (fun ls hl => ?_)
            refine lv_goto (tgt := 6) hx hb d_MM_rowOf_234 (by decide) ?_
            exact ih6 _ (by omega) (i + 1) x ls rfl (by omega) (mt_pf_f hx9 (by simp [mt_in, hkv, mt_rc])) (lv_sub hl [0, 1, 6, 7, 8, 9] rfl)
          refine lv_iload hx hb d_MM_rowOf_44 (lv_at hl 3 rfl) ?_
          refine lv_aload_n hx hb d_MM_rowOf_46 rfl (lv_at hl 4 rfl) ?_
          refine va_get (D := g.1) (own := R_MM) (ref := R_MM) (ci := 5) (v := .ref (md 3)) (C := R_MM) (T := F_MM) (N := 16) hx hb hts in_MM hown hG.1 hP 0 rfl rfl 3 (by decide) (hts _ wd_386) (fun _ h9 => h9) rfl d_MM_rowOf_47 ?_
          refine lv_iload hx hb d_MM_rowOf_50 (lv_at hl 2 rfl) ?_
          refine va_iald hx hb hG.1 hP 3 0 rfl rfl (vp_in_nI (by omega) (by decide)) d_MM_rowOf_52 ?_
          refine mt_ri (y := nI (b i)) (by rw [nI_clamp (by omega)]; exact (hT _ (by omega)).2.2) ?_
          refine lv_ishr hx hb d_MM_rowOf_53 ?_
          refine lv_iconst (v := nI 1) hx hb d_MM_rowOf_54 (by decide) ?_
          refine lv_iand hx hb d_MM_rowOf_55 ?_
          refine mt_ri (y := mt_b (Nat.testBit x ((b i) % 32))) (mt_bit32 (by omega) (by omega)) ?_
          refine lv_iconst (v := nI 1) hx hb d_MM_rowOf_56 (by decide) ?_
          refine lv_icmp_ne (tgt := 64) hx hb d_MM_rowOf_57 (by decide) (mt_nb1 fun hc57 => ?_) (mt_b1 fun hc57 => ?_)
          · ---- 9F k2 57T
            refine lv_iconst (v := nI 0) hx hb d_MM_rowOf_64 (by decide) ?_
            exact ct65 false (hc57.symm)
          · ---- 9F k2 57F
            refine lv_iconst (v := nI 1) hx hb d_MM_rowOf_60 (by decide) ?_
            refine lv_goto (tgt := 65) hx hb d_MM_rowOf_61 (by decide) ?_
            exact ct65 true (hc57.symm)
        refine lv_iload hx hb d_MM_rowOf_21 (lv_at hl 2 rfl) ?_
        refine lv_aload_n hx hb d_MM_rowOf_23 rfl (lv_at hl 3 rfl) ?_
        refine va_get (D := g.1) (own := R_MM) (ref := R_MM) (ci := 5) (v := .ref (md 2)) (C := R_MM) (T := F_MM) (N := 16) hx hb hts in_MM hown hG.1 hP 0 rfl rfl 2 (by decide) (hts _ wd_385) (fun _ h9 => h9) rfl d_MM_rowOf_24 ?_
        refine lv_iload hx hb d_MM_rowOf_27 (lv_at hl 1 rfl) ?_
        refine va_iald hx hb hG.1 hP 2 0 rfl rfl (vp_in_nI (by omega) (by decide)) d_MM_rowOf_29 ?_
        refine mt_ri (y := nI (a i)) (by rw [nI_clamp (by omega)]; exact (hT _ (by omega)).2.1) ?_
        refine lv_ishr hx hb d_MM_rowOf_30 ?_
        refine lv_iconst (v := nI 1) hx hb d_MM_rowOf_31 (by decide) ?_
        refine lv_iand hx hb d_MM_rowOf_32 ?_
        refine mt_ri (y := mt_b (Nat.testBit x ((a i) % 32))) (mt_bit32 (by omega) (by omega)) ?_
        refine lv_iconst (v := nI 1) hx hb d_MM_rowOf_33 (by decide) ?_
        refine lv_icmp_ne (tgt := 41) hx hb d_MM_rowOf_34 (by decide) (mt_nb1 fun hc34 => ?_) (mt_b1 fun hc34 => ?_)
        · ---- 9F k2 34T
          refine lv_iconst (v := nI 0) hx hb d_MM_rowOf_41 (by decide) ?_
          exact ct42 false (hc34.symm)
        · ---- 9F k2 34F
          refine lv_iconst (v := nI 1) hx hb d_MM_rowOf_37 (by decide) ?_
          refine lv_goto (tgt := 42) hx hb d_MM_rowOf_38 (by decide) ?_
          exact ct42 true (hc34.symm)
      · ---- 9F k3
        refine mt_ri (y := nI 3) (by rw [hkv]) ?_
        refine lv_istore (lv' := [(6, .int (nI 3)), (5, .int (nI i)), (4, .int (nI x)), (0, .ref (md 0)), (1, .int (nI nn)), (2, .int (nI 0)), (3, .int (nI wh))]) hx hb d_MM_rowOf_19 hl (by decide) rfl (fun ls hl => ?_)
        have ct42 : ∀ (z7 : Bool), z7 = x.testBit (a i % 32) → W p l e (gx_rm 0 0) s m ([.ref (md 0), .int (nI nn), .int (nI 0), .int (nI wh)] : List Value).toArray below meth c s.heap [] 0 0 (MQ below (vp_Si (fun r => r = nI (mt_pf k a b (mt_rc k a wh) nn))) ([.ref (md 0), .int (nI nn), .int (nI 0), .int (nI wh)] : List Value).toArray s 0 0 (fun _ => False)) (F0 m 42 ls [.int (mt_b z7)]) := by
          intro z7 hcut42
          refine lv_istore (lv' := [(7, .int (mt_b z7)), (6, .int (nI 3)), (5, .int (nI i)), (4, .int (nI x)), (0, .ref (md 0)), (1, .int (nI nn)), (2, .int (nI 0)), (3, .int (nI wh))]) hx hb d_MM_rowOf_42 hl (by decide) rfl (fun ls hl => ?_)
          have ct65 : ∀ (z8 : Bool), z8 = x.testBit (b i % 32) → W p l e (gx_rm 0 0) s m ([.ref (md 0), .int (nI nn), .int (nI 0), .int (nI wh)] : List Value).toArray below meth c s.heap [] 0 0 (MQ below (vp_Si (fun r => r = nI (mt_pf k a b (mt_rc k a wh) nn))) ([.ref (md 0), .int (nI nn), .int (nI 0), .int (nI wh)] : List Value).toArray s 0 0 (fun _ => False)) (F0 m 65 ls [.int (mt_b z8)]) := by
            intro z8 hcut65
            refine lv_istore (lv' := [(8, .int (mt_b z8)), (7, .int (mt_b z7)), (6, .int (nI 3)), (5, .int (nI i)), (4, .int (nI x)), (0, .ref (md 0)), (1, .int (nI nn)), (2, .int (nI 0)), (3, .int (nI wh))]) hx hb d_MM_rowOf_65 hl (by decide) rfl (fun ls hl => ?_)
            have hz7 := hcut42
            have hz8 := hcut65
            have hz9 := hz8
            refine lv_iload hx hb d_MM_rowOf_67 (lv_at hl 2 rfl) ?_
            refine lv_bipush (v := nI 6) hx hb d_MM_rowOf_69 (by decide) ?_
            refine lv_icmp_eq (tgt := 117) hx hb d_MM_rowOf_71 (by decide) (fun h9 => absurd h9 (by decide)) (fun _ => ?_)
            refine lv_iload hx hb d_MM_rowOf_74 (lv_at hl 2 rfl) ?_
            refine lv_iconst (v := nI 3) hx hb d_MM_rowOf_76 (by decide) ?_
            refine lv_icmp_ne (tgt := 90) hx hb d_MM_rowOf_77 (by decide) (fun h9 => absurd h9 (by decide)) (fun _ => ?_)
            refine lv_iload hx hb d_MM_rowOf_80 (lv_at hl 1 rfl) ?_
            refine lv_if_ne (tgt := 117) hx hb d_MM_rowOf_82 (by decide) (mt_nz fun hc82 => ?_) (mt_z fun hc82 => ?_)
            · ---- 9F k3 82T
              refine lv_iconst (v := nI 1) hx hb d_MM_rowOf_117 (by decide) ?_
              refine lv_goto (tgt := 122) hx hb d_MM_rowOf_118 (by decide) ?_
              refine lv_istore (lv' := [(9, .int (nI 1)), (8, .int (mt_b z8)), (7, .int (mt_b z7)), (6, .int (nI 3)), (5, .int (nI i)), (4, .int (nI x)), (0, .ref (md 0)), (1, .int (nI nn)), (2, .int (nI 0)), (3, .int (nI wh))]) hx hb d_MM_rowOf_122 hl (by decide) rfl (fun ls hl => ?_)
              refine lv_iload hx hb d_MM_rowOf_124 (lv_at hl 0 rfl) ?_
              refine lv_if_ne (tgt := 205) hx hb d_MM_rowOf_126 (by decide) (fun _ => ?_) (fun h9 => absurd h9 (by decide))
              refine lv_iconst (v := nI 1) hx hb d_MM_rowOf_205 (by decide) ?_
              refine lv_goto (tgt := 210) hx hb d_MM_rowOf_206 (by decide) ?_
              refine lv_istore (lv' := [(9, .int (nI 1)), (8, .int (mt_b z8)), (7, .int (mt_b z7)), (6, .int (nI 3)), (5, .int (nI i)), (4, .int (nI x)), (0, .ref (md 0)), (1, .int (nI nn)), (2, .int (nI 0)), (3, .int (nI wh))]) hx hb d_MM_rowOf_210 hl (by decide) rfl (fun ls hl => ?_)
              refine lv_iload hx hb d_MM_rowOf_212 (lv_at hl 0 rfl) ?_
              refine lv_if_eq (tgt := 227) hx hb d_MM_rowOf_214 (by decide) (fun h9 => absurd h9 (by decide)) (fun _ => ?_)
              refine lv_iload hx hb d_MM_rowOf_217 (lv_at hl 5 rfl) ?_
              refine lv_iconst (v := nI 1) hx hb d_MM_rowOf_219 (by decide) ?_
              refine lv_iload hx hb d_MM_rowOf_220 (lv_at hl 4 rfl) ?_
              refine lv_ishl hx hb d_MM_rowOf_222 ?_
              refine mt_ri (y := nI (2 ^ i)) (mt_shl (by omega)) ?_
              refine lv_ior hx hb d_MM_rowOf_223 ?_
              refine mt_ri (y := nI (x ||| (2 ^ i))) (mt_or _ _) ?_
              refine lv_goto (tgt := 229) hx hb d_MM_rowOf_224 (by decide) ?_
              refine lv_istore (lv' := [(4, .int (nI (x ||| (2 ^ i)))), (9, .int (nI 1)), (8, .int (mt_b z8)), (7, .int (mt_b z7)), (6, .int (nI 3)), (5, .int (nI i)), (0, .ref (md 0)), (1, .int (nI nn)), (2, .int (nI 0)), (3, .int (nI wh))]) hx hb d_MM_rowOf_229 hl (by decide) rfl (fun ls hl => ?_)
              refine lv_iinc (k := 5) (v := nI (i + 1)) (lv' := [(5, .int (nI (i + 1))), (4, .int (nI (x ||| (2 ^ i)))), (9, .int (nI 1)), (8, .int (mt_b z8)), (7, .int (mt_b z7)), (6, .int (nI 3)), (0, .ref (md 0)), (1, .int (nI nn)), (2, .int (nI 0)), (3, .int (nI wh))]) hx hb d_MM_rowOf_231 hl rfl (by rw [lit1]; exact nI_1 _) (by decide) rfl (fun ls hl => ?_)
              refine lv_goto (tgt := 6) hx hb d_MM_rowOf_234 (by decide) ?_
              exact ih6 _ (by omega) (i + 1) (x ||| (2 ^ i)) ls rfl (by omega) (mt_pf_t hx9 (by rw [Nat.mod_eq_of_lt (by have := (hw i (by omega)).2.1 (by omega) (by omega); omega)] at hz7 hz8; simp [mt_in, hkv, mt_rc, ← hz7, ← hz8, hc82])) (lv_sub hl [0, 1, 6, 7, 8, 9] rfl)
            · ---- 9F k3 82F
              refine lv_iload hx hb d_MM_rowOf_85 (lv_at hl 0 rfl) ?_
              refine lv_if_ne (tgt := 117) hx hb d_MM_rowOf_87 (by decide) (mt_nz fun hc87 => ?_) (mt_z fun hc87 => ?_)
              · ---- 9F k3 82F 87T
                refine lv_iconst (v := nI 1) hx hb d_MM_rowOf_117 (by decide) ?_
                refine lv_goto (tgt := 122) hx hb d_MM_rowOf_118 (by decide) ?_
                refine lv_istore (lv' := [(9, .int (nI 1)), (8, .int (mt_b z8)), (7, .int (mt_b z7)), (6, .int (nI 3)), (5, .int (nI i)), (4, .int (nI x)), (0, .ref (md 0)), (1, .int (nI nn)), (2, .int (nI 0)), (3, .int (nI wh))]) hx hb d_MM_rowOf_122 hl (by decide) rfl (fun ls hl => ?_)
                refine lv_iload hx hb d_MM_rowOf_124 (lv_at hl 0 rfl) ?_
                refine lv_if_ne (tgt := 205) hx hb d_MM_rowOf_126 (by decide) (fun _ => ?_) (fun h9 => absurd h9 (by decide))
                refine lv_iconst (v := nI 1) hx hb d_MM_rowOf_205 (by decide) ?_
                refine lv_goto (tgt := 210) hx hb d_MM_rowOf_206 (by decide) ?_
                refine lv_istore (lv' := [(9, .int (nI 1)), (8, .int (mt_b z8)), (7, .int (mt_b z7)), (6, .int (nI 3)), (5, .int (nI i)), (4, .int (nI x)), (0, .ref (md 0)), (1, .int (nI nn)), (2, .int (nI 0)), (3, .int (nI wh))]) hx hb d_MM_rowOf_210 hl (by decide) rfl (fun ls hl => ?_)
                refine lv_iload hx hb d_MM_rowOf_212 (lv_at hl 0 rfl) ?_
                refine lv_if_eq (tgt := 227) hx hb d_MM_rowOf_214 (by decide) (fun h9 => absurd h9 (by decide)) (fun _ => ?_)
                refine lv_iload hx hb d_MM_rowOf_217 (lv_at hl 5 rfl) ?_
                refine lv_iconst (v := nI 1) hx hb d_MM_rowOf_219 (by decide) ?_
                refine lv_iload hx hb d_MM_rowOf_220 (lv_at hl 4 rfl) ?_
                refine lv_ishl hx hb d_MM_rowOf_222 ?_
                refine mt_ri (y := nI (2 ^ i)) (mt_shl (by omega)) ?_
                refine lv_ior hx hb d_MM_rowOf_223 ?_
                refine mt_ri (y := nI (x ||| (2 ^ i))) (mt_or _ _) ?_
                refine lv_goto (tgt := 229) hx hb d_MM_rowOf_224 (by decide) ?_
                refine lv_istore (lv' := [(4, .int (nI (x ||| (2 ^ i)))), (9, .int (nI 1)), (8, .int (mt_b z8)), (7, .int (mt_b z7)), (6, .int (nI 3)), (5, .int (nI i)), (0, .ref (md 0)), (1, .int (nI nn)), (2, .int (nI 0)), (3, .int (nI wh))]) hx hb d_MM_rowOf_229 hl (by decide) rfl (fun ls hl => ?_)
                refine lv_iinc (k := 5) (v := nI (i + 1)) (lv' := [(5, .int (nI (i + 1))), (4, .int (nI (x ||| (2 ^ i)))), (9, .int (nI 1)), (8, .int (mt_b z8)), (7, .int (mt_b z7)), (6, .int (nI 3)), (0, .ref (md 0)), (1, .int (nI nn)), (2, .int (nI 0)), (3, .int (nI wh))]) hx hb d_MM_rowOf_231 hl rfl (by rw [lit1]; exact nI_1 _) (by decide) rfl (fun ls hl => ?_)
                refine lv_goto (tgt := 6) hx hb d_MM_rowOf_234 (by decide) ?_
                exact ih6 _ (by omega) (i + 1) (x ||| (2 ^ i)) ls rfl (by omega) (mt_pf_t hx9 (by rw [Nat.mod_eq_of_lt (by have := (hw i (by omega)).2.1 (by omega) (by omega); omega)] at hz7 hz8; simp [mt_in, hkv, mt_rc, ← hz7, ← hz8, hc82, hc87])) (lv_sub hl [0, 1, 6, 7, 8, 9] rfl)
              · ---- 9F k3 82F 87F
                refine lv_iload hx hb d_MM_rowOf_90 (lv_at hl 2 rfl) ?_
                refine lv_iconst (v := nI 4) hx hb d_MM_rowOf_92 (by decide) ?_
                refine lv_icmp_ne (tgt := 106) hx hb d_MM_rowOf_93 (by decide) (fun _ => ?_) (fun h9 => absurd h9 (by decide))
                refine lv_iload hx hb d_MM_rowOf_106 (lv_at hl 2 rfl) ?_
                refine lv_iconst (v := nI 5) hx hb d_MM_rowOf_108 (by decide) ?_
                refine lv_icmp_ne (tgt := 121) hx hb d_MM_rowOf_109 (by decide) (fun _ => ?_) (fun h9 => absurd h9 (by decide))
                refine lv_iconst (v := nI 0) hx hb d_MM_rowOf_121 (by decide) ?_
                refine lv_istore (lv' := [(9, .int (nI 0)), (8, .int (mt_b z8)), (7, .int (mt_b z7)), (6, .int (nI 3)), (5, .int (nI i)), (4, .int (nI x)), (0, .ref (md 0)), (1, .int (nI nn)), (2, .int (nI 0)), (3, .int (nI wh))]) hx hb d_MM_rowOf_122 hl (by decide) rfl (fun ls hl => ?_)
                refine lv_iload hx hb d_MM_rowOf_124 (lv_at hl 0 rfl) ?_
                refine lv_if_ne (tgt := 205) hx hb d_MM_rowOf_126 (by decide) (fun h9 => absurd h9 (by decide)) (fun _ => ?_)
                refine lv_iload hx hb d_MM_rowOf_129 (lv_at hl 3 rfl) ?_
                refine lv_if_ne (tgt := 153) hx hb d_MM_rowOf_131 (by decide) (fun _ => ?_) (fun h9 => absurd h9 (by decide))
                refine lv_iload hx hb d_MM_rowOf_153 (lv_at hl 3 rfl) ?_
                refine lv_iconst (v := nI 1) hx hb d_MM_rowOf_155 (by decide) ?_
                refine lv_icmp_ne (tgt := 179) hx hb d_MM_rowOf_156 (by decide) (fun _ => ?_) (fun h9 => absurd h9 (by decide))
                refine lv_iload hx hb d_MM_rowOf_179 (lv_at hl 3 rfl) ?_
                refine lv_iconst (v := nI 2) hx hb d_MM_rowOf_181 (by decide) ?_
                refine lv_icmp_ne (tgt := 209) hx hb d_MM_rowOf_182 (by decide) (fun _ => ?_) (fun h9 => absurd h9 (by decide))
                refine lv_iconst (v := nI 0) hx hb d_MM_rowOf_209 (by decide) ?_
                refine lv_istore (lv' := [(9, .int (nI 0)), (8, .int (mt_b z8)), (7, .int (mt_b z7)), (6, .int (nI 3)), (5, .int (nI i)), (4, .int (nI x)), (0, .ref (md 0)), (1, .int (nI nn)), (2, .int (nI 0)), (3, .int (nI wh))]) hx hb d_MM_rowOf_210 hl (by decide) rfl (fun ls hl => ?_)
                refine lv_iload hx hb d_MM_rowOf_212 (lv_at hl 0 rfl) ?_
                refine lv_if_eq (tgt := 227) hx hb d_MM_rowOf_214 (by decide) (fun _ => ?_) (fun h9 => absurd h9 (by decide))
                refine lv_iload hx hb d_MM_rowOf_227 (lv_at hl 5 rfl) ?_
                refine lv_istore (lv' := [(4, .int (nI x)), (9, .int (nI 0)), (8, .int (mt_b z8)), (7, .int (mt_b z7)), (6, .int (nI 3)), (5, .int (nI i)), (0, .ref (md 0)), (1, .int (nI nn)), (2, .int (nI 0)), (3, .int (nI wh))]) hx hb d_MM_rowOf_229 hl (by decide) rfl (fun ls hl => ?_)
                refine lv_iinc (k := 5) (v := nI (i + 1)) (lv' := [(5, .int (nI (i + 1))), (4, .int (nI x)), (9, .int (nI 0)), (8, .int (mt_b z8)), (7, .int (mt_b z7)), (6, .int (nI 3)), (0, .ref (md 0)), (1, .int (nI nn)), (2, .int (nI 0)), (3, .int (nI wh))]) hx hb d_MM_rowOf_231 hl rfl (by rw [lit1]; exact nI_1 _) (by decide) rfl (fun ls hl => ?_)
                refine lv_goto (tgt := 6) hx hb d_MM_rowOf_234 (by decide) ?_
                exact ih6 _ (by omega) (i + 1) x ls rfl (by omega) (mt_pf_f hx9 (by rw [Nat.mod_eq_of_lt (by have := (hw i (by omega)).2.1 (by omega) (by omega); omega)] at hz7 hz8; simp [mt_in, hkv, mt_rc, ← hz7, ← hz8, hc82, hc87])) (lv_sub hl [0, 1, 6, 7, 8, 9] rfl)
          refine lv_iload hx hb d_MM_rowOf_44 (lv_at hl 3 rfl) ?_
          refine lv_aload_n hx hb d_MM_rowOf_46 rfl (lv_at hl 4 rfl) ?_
          refine va_get (D := g.1) (own := R_MM) (ref := R_MM) (ci := 5) (v := .ref (md 3)) (C := R_MM) (T := F_MM) (N := 16) hx hb hts in_MM hown hG.1 hP 0 rfl rfl 3 (by decide) (hts _ wd_386) (fun _ h9 => h9) rfl d_MM_rowOf_47 ?_
          refine lv_iload hx hb d_MM_rowOf_50 (lv_at hl 2 rfl) ?_
          refine va_iald hx hb hG.1 hP 3 0 rfl rfl (vp_in_nI (by omega) (by decide)) d_MM_rowOf_52 ?_
          refine mt_ri (y := nI (b i)) (by rw [nI_clamp (by omega)]; exact (hT _ (by omega)).2.2) ?_
          refine lv_ishr hx hb d_MM_rowOf_53 ?_
          refine lv_iconst (v := nI 1) hx hb d_MM_rowOf_54 (by decide) ?_
          refine lv_iand hx hb d_MM_rowOf_55 ?_
          refine mt_ri (y := mt_b (Nat.testBit x ((b i) % 32))) (mt_bit32 (by omega) (by omega)) ?_
          refine lv_iconst (v := nI 1) hx hb d_MM_rowOf_56 (by decide) ?_
          refine lv_icmp_ne (tgt := 64) hx hb d_MM_rowOf_57 (by decide) (mt_nb1 fun hc57 => ?_) (mt_b1 fun hc57 => ?_)
          · ---- 9F k3 57T
            refine lv_iconst (v := nI 0) hx hb d_MM_rowOf_64 (by decide) ?_
            exact ct65 false (hc57.symm)
          · ---- 9F k3 57F
            refine lv_iconst (v := nI 1) hx hb d_MM_rowOf_60 (by decide) ?_
            refine lv_goto (tgt := 65) hx hb d_MM_rowOf_61 (by decide) ?_
            exact ct65 true (hc57.symm)
        refine lv_iload hx hb d_MM_rowOf_21 (lv_at hl 2 rfl) ?_
        refine lv_aload_n hx hb d_MM_rowOf_23 rfl (lv_at hl 3 rfl) ?_
        refine va_get (D := g.1) (own := R_MM) (ref := R_MM) (ci := 5) (v := .ref (md 2)) (C := R_MM) (T := F_MM) (N := 16) hx hb hts in_MM hown hG.1 hP 0 rfl rfl 2 (by decide) (hts _ wd_385) (fun _ h9 => h9) rfl d_MM_rowOf_24 ?_
        refine lv_iload hx hb d_MM_rowOf_27 (lv_at hl 1 rfl) ?_
        refine va_iald hx hb hG.1 hP 2 0 rfl rfl (vp_in_nI (by omega) (by decide)) d_MM_rowOf_29 ?_
        refine mt_ri (y := nI (a i)) (by rw [nI_clamp (by omega)]; exact (hT _ (by omega)).2.1) ?_
        refine lv_ishr hx hb d_MM_rowOf_30 ?_
        refine lv_iconst (v := nI 1) hx hb d_MM_rowOf_31 (by decide) ?_
        refine lv_iand hx hb d_MM_rowOf_32 ?_
        refine mt_ri (y := mt_b (Nat.testBit x ((a i) % 32))) (mt_bit32 (by omega) (by omega)) ?_
        refine lv_iconst (v := nI 1) hx hb d_MM_rowOf_33 (by decide) ?_
        refine lv_icmp_ne (tgt := 41) hx hb d_MM_rowOf_34 (by decide) (mt_nb1 fun hc34 => ?_) (mt_b1 fun hc34 => ?_)
        · ---- 9F k3 34T
          refine lv_iconst (v := nI 0) hx hb d_MM_rowOf_41 (by decide) ?_
          exact ct42 false (hc34.symm)
        · ---- 9F k3 34F
          refine lv_iconst (v := nI 1) hx hb d_MM_rowOf_37 (by decide) ?_
          refine lv_goto (tgt := 42) hx hb d_MM_rowOf_38 (by decide) ?_
          exact ct42 true (hc34.symm)
      · ---- 9F k4
        refine mt_ri (y := nI 4) (by rw [hkv]) ?_
        refine lv_istore (lv' := [(6, .int (nI 4)), (5, .int (nI i)), (4, .int (nI x)), (0, .ref (md 0)), (1, .int (nI nn)), (2, .int (nI 0)), (3, .int (nI wh))]) hx hb d_MM_rowOf_19 hl (by decide) rfl (fun ls hl => ?_)
        have ct42 : ∀ (z7 : Bool), z7 = x.testBit (a i % 32) → W p l e (gx_rm 0 0) s m ([.ref (md 0), .int (nI nn), .int (nI 0), .int (nI wh)] : List Value).toArray below meth c s.heap [] 0 0 (MQ below (vp_Si (fun r => r = nI (mt_pf k a b (mt_rc k a wh) nn))) ([.ref (md 0), .int (nI nn), .int (nI 0), .int (nI wh)] : List Value).toArray s 0 0 (fun _ => False)) (F0 m 42 ls [.int (mt_b z7)]) := by
          intro z7 hcut42
          refine lv_istore (lv' := [(7, .int (mt_b z7)), (6, .int (nI 4)), (5, .int (nI i)), (4, .int (nI x)), (0, .ref (md 0)), (1, .int (nI nn)), (2, .int (nI 0)), (3, .int (nI wh))]) hx hb d_MM_rowOf_42 hl (by decide) rfl (fun ls hl => ?_)
          have ct65 : ∀ (z8 : Bool), z8 = x.testBit (b i % 32) → W p l e (gx_rm 0 0) s m ([.ref (md 0), .int (nI nn), .int (nI 0), .int (nI wh)] : List Value).toArray below meth c s.heap [] 0 0 (MQ below (vp_Si (fun r => r = nI (mt_pf k a b (mt_rc k a wh) nn))) ([.ref (md 0), .int (nI nn), .int (nI 0), .int (nI wh)] : List Value).toArray s 0 0 (fun _ => False)) (F0 m 65 ls [.int (mt_b z8)]) := by
            intro z8 hcut65
            refine lv_istore (lv' := [(8, .int (mt_b z8)), (7, .int (mt_b z7)), (6, .int (nI 4)), (5, .int (nI i)), (4, .int (nI x)), (0, .ref (md 0)), (1, .int (nI nn)), (2, .int (nI 0)), (3, .int (nI wh))]) hx hb d_MM_rowOf_65 hl (by decide) rfl (fun ls hl => ?_)
            have hz7 := hcut42
            have hz8 := hcut65
            have hz9 := hz8
            refine lv_iload hx hb d_MM_rowOf_67 (lv_at hl 2 rfl) ?_
            refine lv_bipush (v := nI 6) hx hb d_MM_rowOf_69 (by decide) ?_
            refine lv_icmp_eq (tgt := 117) hx hb d_MM_rowOf_71 (by decide) (fun h9 => absurd h9 (by decide)) (fun _ => ?_)
            refine lv_iload hx hb d_MM_rowOf_74 (lv_at hl 2 rfl) ?_
            refine lv_iconst (v := nI 3) hx hb d_MM_rowOf_76 (by decide) ?_
            refine lv_icmp_ne (tgt := 90) hx hb d_MM_rowOf_77 (by decide) (fun _ => ?_) (fun h9 => absurd h9 (by decide))
            refine lv_iload hx hb d_MM_rowOf_90 (lv_at hl 2 rfl) ?_
            refine lv_iconst (v := nI 4) hx hb d_MM_rowOf_92 (by decide) ?_
            refine lv_icmp_ne (tgt := 106) hx hb d_MM_rowOf_93 (by decide) (fun h9 => absurd h9 (by decide)) (fun _ => ?_)
            refine lv_iload hx hb d_MM_rowOf_96 (lv_at hl 1 rfl) ?_
            refine lv_if_eq (tgt := 106) hx hb d_MM_rowOf_98 (by decide) (mt_z fun hc98 => ?_) (mt_nz fun hc98 => ?_)
            · ---- 9F k4 98T
              refine lv_iload hx hb d_MM_rowOf_106 (lv_at hl 2 rfl) ?_
              refine lv_iconst (v := nI 5) hx hb d_MM_rowOf_108 (by decide) ?_
              refine lv_icmp_ne (tgt := 121) hx hb d_MM_rowOf_109 (by decide) (fun _ => ?_) (fun h9 => absurd h9 (by decide))
              refine lv_iconst (v := nI 0) hx hb d_MM_rowOf_121 (by decide) ?_
              refine lv_istore (lv' := [(9, .int (nI 0)), (8, .int (mt_b z8)), (7, .int (mt_b z7)), (6, .int (nI 4)), (5, .int (nI i)), (4, .int (nI x)), (0, .ref (md 0)), (1, .int (nI nn)), (2, .int (nI 0)), (3, .int (nI wh))]) hx hb d_MM_rowOf_122 hl (by decide) rfl (fun ls hl => ?_)
              refine lv_iload hx hb d_MM_rowOf_124 (lv_at hl 0 rfl) ?_
              refine lv_if_ne (tgt := 205) hx hb d_MM_rowOf_126 (by decide) (fun h9 => absurd h9 (by decide)) (fun _ => ?_)
              refine lv_iload hx hb d_MM_rowOf_129 (lv_at hl 3 rfl) ?_
              refine lv_if_ne (tgt := 153) hx hb d_MM_rowOf_131 (by decide) (fun _ => ?_) (fun h9 => absurd h9 (by decide))
              refine lv_iload hx hb d_MM_rowOf_153 (lv_at hl 3 rfl) ?_
              refine lv_iconst (v := nI 1) hx hb d_MM_rowOf_155 (by decide) ?_
              refine lv_icmp_ne (tgt := 179) hx hb d_MM_rowOf_156 (by decide) (fun _ => ?_) (fun h9 => absurd h9 (by decide))
              refine lv_iload hx hb d_MM_rowOf_179 (lv_at hl 3 rfl) ?_
              refine lv_iconst (v := nI 2) hx hb d_MM_rowOf_181 (by decide) ?_
              refine lv_icmp_ne (tgt := 209) hx hb d_MM_rowOf_182 (by decide) (fun _ => ?_) (fun h9 => absurd h9 (by decide))
              refine lv_iconst (v := nI 0) hx hb d_MM_rowOf_209 (by decide) ?_
              refine lv_istore (lv' := [(9, .int (nI 0)), (8, .int (mt_b z8)), (7, .int (mt_b z7)), (6, .int (nI 4)), (5, .int (nI i)), (4, .int (nI x)), (0, .ref (md 0)), (1, .int (nI nn)), (2, .int (nI 0)), (3, .int (nI wh))]) hx hb d_MM_rowOf_210 hl (by decide) rfl (fun ls hl => ?_)
              refine lv_iload hx hb d_MM_rowOf_212 (lv_at hl 0 rfl) ?_
              refine lv_if_eq (tgt := 227) hx hb d_MM_rowOf_214 (by decide) (fun _ => ?_) (fun h9 => absurd h9 (by decide))
              refine lv_iload hx hb d_MM_rowOf_227 (lv_at hl 5 rfl) ?_
              refine lv_istore (lv' := [(4, .int (nI x)), (9, .int (nI 0)), (8, .int (mt_b z8)), (7, .int (mt_b z7)), (6, .int (nI 4)), (5, .int (nI i)), (0, .ref (md 0)), (1, .int (nI nn)), (2, .int (nI 0)), (3, .int (nI wh))]) hx hb d_MM_rowOf_229 hl (by decide) rfl (fun ls hl => ?_)
              refine lv_iinc (k := 5) (v := nI (i + 1)) (lv' := [(5, .int (nI (i + 1))), (4, .int (nI x)), (9, .int (nI 0)), (8, .int (mt_b z8)), (7, .int (mt_b z7)), (6, .int (nI 4)), (0, .ref (md 0)), (1, .int (nI nn)), (2, .int (nI 0)), (3, .int (nI wh))]) hx hb d_MM_rowOf_231 hl rfl (by rw [lit1]; exact nI_1 _) (by decide) rfl (fun ls hl => ?_)
              refine lv_goto (tgt := 6) hx hb d_MM_rowOf_234 (by decide) ?_
              exact ih6 _ (by omega) (i + 1) x ls rfl (by omega) (mt_pf_f hx9 (by rw [Nat.mod_eq_of_lt (by have := (hw i (by omega)).2.1 (by omega) (by omega); omega)] at hz7 hz8; simp [mt_in, hkv, mt_rc, ← hz7, ← hz8, hc98])) (lv_sub hl [0, 1, 6, 7, 8, 9] rfl)
            · ---- 9F k4 98F
              refine lv_iload hx hb d_MM_rowOf_101 (lv_at hl 0 rfl) ?_
              refine lv_if_ne (tgt := 117) hx hb d_MM_rowOf_103 (by decide) (mt_nz fun hc103 => ?_) (mt_z fun hc103 => ?_)
              · ---- 9F k4 98F 103T
                refine lv_iconst (v := nI 1) hx hb d_MM_rowOf_117 (by decide) ?_
                refine lv_goto (tgt := 122) hx hb d_MM_rowOf_118 (by decide) ?_
                refine lv_istore (lv' := [(9, .int (nI 1)), (8, .int (mt_b z8)), (7, .int (mt_b z7)), (6, .int (nI 4)), (5, .int (nI i)), (4, .int (nI x)), (0, .ref (md 0)), (1, .int (nI nn)), (2, .int (nI 0)), (3, .int (nI wh))]) hx hb d_MM_rowOf_122 hl (by decide) rfl (fun ls hl => ?_)
                refine lv_iload hx hb d_MM_rowOf_124 (lv_at hl 0 rfl) ?_
                refine lv_if_ne (tgt := 205) hx hb d_MM_rowOf_126 (by decide) (fun _ => ?_) (fun h9 => absurd h9 (by decide))
                refine lv_iconst (v := nI 1) hx hb d_MM_rowOf_205 (by decide) ?_
                refine lv_goto (tgt := 210) hx hb d_MM_rowOf_206 (by decide) ?_
                refine lv_istore (lv' := [(9, .int (nI 1)), (8, .int (mt_b z8)), (7, .int (mt_b z7)), (6, .int (nI 4)), (5, .int (nI i)), (4, .int (nI x)), (0, .ref (md 0)), (1, .int (nI nn)), (2, .int (nI 0)), (3, .int (nI wh))]) hx hb d_MM_rowOf_210 hl (by decide) rfl (fun ls hl => ?_)
                refine lv_iload hx hb d_MM_rowOf_212 (lv_at hl 0 rfl) ?_
                refine lv_if_eq (tgt := 227) hx hb d_MM_rowOf_214 (by decide) (fun h9 => absurd h9 (by decide)) (fun _ => ?_)
                refine lv_iload hx hb d_MM_rowOf_217 (lv_at hl 5 rfl) ?_
                refine lv_iconst (v := nI 1) hx hb d_MM_rowOf_219 (by decide) ?_
                refine lv_iload hx hb d_MM_rowOf_220 (lv_at hl 4 rfl) ?_
                refine lv_ishl hx hb d_MM_rowOf_222 ?_
                refine mt_ri (y := nI (2 ^ i)) (mt_shl (by omega)) ?_
                refine lv_ior hx hb d_MM_rowOf_223 ?_
                refine mt_ri (y := nI (x ||| (2 ^ i))) (mt_or _ _) ?_
                refine lv_goto (tgt := 229) hx hb d_MM_rowOf_224 (by decide) ?_
                refine lv_istore (lv' := [(4, .int (nI (x ||| (2 ^ i)))), (9, .int (nI 1)), (8, .int (mt_b z8)), (7, .int (mt_b z7)), (6, .int (nI 4)), (5, .int (nI i)), (0, .ref (md 0)), (1, .int (nI nn)), (2, .int (nI 0)), (3, .int (nI wh))]) hx hb d_MM_rowOf_229 hl (by decide) rfl (fun ls hl => ?_)
                refine lv_iinc (k := 5) (v := nI (i + 1)) (lv' := [(5, .int (nI (i + 1))), (4, .int (nI (x ||| (2 ^ i)))), (9, .int (nI 1)), (8, .int (mt_b z8)), (7, .int (mt_b z7)), (6, .int (nI 4)), (0, .ref (md 0)), (1, .int (nI nn)), (2, .int (nI 0)), (3, .int (nI wh))]) hx hb d_MM_rowOf_231 hl rfl (by rw [lit1]; exact nI_1 _) (by decide) rfl (fun ls hl => ?_)
                refine lv_goto (tgt := 6) hx hb d_MM_rowOf_234 (by decide) ?_
                exact ih6 _ (by omega) (i + 1) (x ||| (2 ^ i)) ls rfl (by omega) (mt_pf_t hx9 (by rw [Nat.mod_eq_of_lt (by have := (hw i (by omega)).2.1 (by omega) (by omega); omega)] at hz7 hz8; simp [mt_in, hkv, mt_rc, ← hz7, ← hz8, hc98, hc103])) (lv_sub hl [0, 1, 6, 7, 8, 9] rfl)
              · ---- 9F k4 98F 103F
                refine lv_iload hx hb d_MM_rowOf_106 (lv_at hl 2 rfl) ?_
                refine lv_iconst (v := nI 5) hx hb d_MM_rowOf_108 (by decide) ?_
                refine lv_icmp_ne (tgt := 121) hx hb d_MM_rowOf_109 (by decide) (fun _ => ?_) (fun h9 => absurd h9 (by decide))
                refine lv_iconst (v := nI 0) hx hb d_MM_rowOf_121 (by decide) ?_
                refine lv_istore (lv' := [(9, .int (nI 0)), (8, .int (mt_b z8)), (7, .int (mt_b z7)), (6, .int (nI 4)), (5, .int (nI i)), (4, .int (nI x)), (0, .ref (md 0)), (1, .int (nI nn)), (2, .int (nI 0)), (3, .int (nI wh))]) hx hb d_MM_rowOf_122 hl (by decide) rfl (fun ls hl => ?_)
                refine lv_iload hx hb d_MM_rowOf_124 (lv_at hl 0 rfl) ?_
                refine lv_if_ne (tgt := 205) hx hb d_MM_rowOf_126 (by decide) (fun h9 => absurd h9 (by decide)) (fun _ => ?_)
                refine lv_iload hx hb d_MM_rowOf_129 (lv_at hl 3 rfl) ?_
                refine lv_if_ne (tgt := 153) hx hb d_MM_rowOf_131 (by decide) (fun _ => ?_) (fun h9 => absurd h9 (by decide))
                refine lv_iload hx hb d_MM_rowOf_153 (lv_at hl 3 rfl) ?_
                refine lv_iconst (v := nI 1) hx hb d_MM_rowOf_155 (by decide) ?_
                refine lv_icmp_ne (tgt := 179) hx hb d_MM_rowOf_156 (by decide) (fun _ => ?_) (fun h9 => absurd h9 (by decide))
                refine lv_iload hx hb d_MM_rowOf_179 (lv_at hl 3 rfl) ?_
                refine lv_iconst (v := nI 2) hx hb d_MM_rowOf_181 (by decide) ?_
                refine lv_icmp_ne (tgt := 209) hx hb d_MM_rowOf_182 (by decide) (fun _ => ?_) (fun h9 => absurd h9 (by decide))
                refine lv_iconst (v := nI 0) hx hb d_MM_rowOf_209 (by decide) ?_
                refine lv_istore (lv' := [(9, .int (nI 0)), (8, .int (mt_b z8)), (7, .int (mt_b z7)), (6, .int (nI 4)), (5, .int (nI i)), (4, .int (nI x)), (0, .ref (md 0)), (1, .int (nI nn)), (2, .int (nI 0)), (3, .int (nI wh))]) hx hb d_MM_rowOf_210 hl (by decide) rfl (fun ls hl => ?_)
                refine lv_iload hx hb d_MM_rowOf_212 (lv_at hl 0 rfl) ?_
                refine lv_if_eq (tgt := 227) hx hb d_MM_rowOf_214 (by decide) (fun _ => ?_) (fun h9 => absurd h9 (by decide))
                refine lv_iload hx hb d_MM_rowOf_227 (lv_at hl 5 rfl) ?_
                refine lv_istore (lv' := [(4, .int (nI x)), (9, .int (nI 0)), (8, .int (mt_b z8)), (7, .int (mt_b z7)), (6, .int (nI 4)), (5, .int (nI i)), (0, .ref (md 0)), (1, .int (nI nn)), (2, .int (nI 0)), (3, .int (nI wh))]) hx hb d_MM_rowOf_229 hl (by decide) rfl (fun ls hl => ?_)
                refine lv_iinc (k := 5) (v := nI (i + 1)) (lv' := [(5, .int (nI (i + 1))), (4, .int (nI x)), (9, .int (nI 0)), (8, .int (mt_b z8)), (7, .int (mt_b z7)), (6, .int (nI 4)), (0, .ref (md 0)), (1, .int (nI nn)), (2, .int (nI 0)), (3, .int (nI wh))]) hx hb d_MM_rowOf_231 hl rfl (by rw [lit1]; exact nI_1 _) (by decide) rfl (fun ls hl => ?_)
                refine lv_goto (tgt := 6) hx hb d_MM_rowOf_234 (by decide) ?_
                exact ih6 _ (by omega) (i + 1) x ls rfl (by omega) (mt_pf_f hx9 (by rw [Nat.mod_eq_of_lt (by have := (hw i (by omega)).2.1 (by omega) (by omega); omega)] at hz7 hz8; simp [mt_in, hkv, mt_rc, ← hz7, ← hz8, hc98, hc103])) (lv_sub hl [0, 1, 6, 7, 8, 9] rfl)
          refine lv_iload hx hb d_MM_rowOf_44 (lv_at hl 3 rfl) ?_
          refine lv_aload_n hx hb d_MM_rowOf_46 rfl (lv_at hl 4 rfl) ?_
          refine va_get (D := g.1) (own := R_MM) (ref := R_MM) (ci := 5) (v := .ref (md 3)) (C := R_MM) (T := F_MM) (N := 16) hx hb hts in_MM hown hG.1 hP 0 rfl rfl 3 (by decide) (hts _ wd_386) (fun _ h9 => h9) rfl d_MM_rowOf_47 ?_
          refine lv_iload hx hb d_MM_rowOf_50 (lv_at hl 2 rfl) ?_
          refine va_iald hx hb hG.1 hP 3 0 rfl rfl (vp_in_nI (by omega) (by decide)) d_MM_rowOf_52 ?_
          refine mt_ri (y := nI (b i)) (by rw [nI_clamp (by omega)]; exact (hT _ (by omega)).2.2) ?_
          refine lv_ishr hx hb d_MM_rowOf_53 ?_
          refine lv_iconst (v := nI 1) hx hb d_MM_rowOf_54 (by decide) ?_
          refine lv_iand hx hb d_MM_rowOf_55 ?_
          refine mt_ri (y := mt_b (Nat.testBit x ((b i) % 32))) (mt_bit32 (by omega) (by omega)) ?_
          refine lv_iconst (v := nI 1) hx hb d_MM_rowOf_56 (by decide) ?_
          refine lv_icmp_ne (tgt := 64) hx hb d_MM_rowOf_57 (by decide) (mt_nb1 fun hc57 => ?_) (mt_b1 fun hc57 => ?_)
          · ---- 9F k4 57T
            refine lv_iconst (v := nI 0) hx hb d_MM_rowOf_64 (by decide) ?_
            exact ct65 false (hc57.symm)
          · ---- 9F k4 57F
            refine lv_iconst (v := nI 1) hx hb d_MM_rowOf_60 (by decide) ?_
            refine lv_goto (tgt := 65) hx hb d_MM_rowOf_61 (by decide) ?_
            exact ct65 true (hc57.symm)
        refine lv_iload hx hb d_MM_rowOf_21 (lv_at hl 2 rfl) ?_
        refine lv_aload_n hx hb d_MM_rowOf_23 rfl (lv_at hl 3 rfl) ?_
        refine va_get (D := g.1) (own := R_MM) (ref := R_MM) (ci := 5) (v := .ref (md 2)) (C := R_MM) (T := F_MM) (N := 16) hx hb hts in_MM hown hG.1 hP 0 rfl rfl 2 (by decide) (hts _ wd_385) (fun _ h9 => h9) rfl d_MM_rowOf_24 ?_
        refine lv_iload hx hb d_MM_rowOf_27 (lv_at hl 1 rfl) ?_
        refine va_iald hx hb hG.1 hP 2 0 rfl rfl (vp_in_nI (by omega) (by decide)) d_MM_rowOf_29 ?_
        refine mt_ri (y := nI (a i)) (by rw [nI_clamp (by omega)]; exact (hT _ (by omega)).2.1) ?_
        refine lv_ishr hx hb d_MM_rowOf_30 ?_
        refine lv_iconst (v := nI 1) hx hb d_MM_rowOf_31 (by decide) ?_
        refine lv_iand hx hb d_MM_rowOf_32 ?_
        refine mt_ri (y := mt_b (Nat.testBit x ((a i) % 32))) (mt_bit32 (by omega) (by omega)) ?_
        refine lv_iconst (v := nI 1) hx hb d_MM_rowOf_33 (by decide) ?_
        refine lv_icmp_ne (tgt := 41) hx hb d_MM_rowOf_34 (by decide) (mt_nb1 fun hc34 => ?_) (mt_b1 fun hc34 => ?_)
        · ---- 9F k4 34T
          refine lv_iconst (v := nI 0) hx hb d_MM_rowOf_41 (by decide) ?_
          exact ct42 false (hc34.symm)
        · ---- 9F k4 34F
          refine lv_iconst (v := nI 1) hx hb d_MM_rowOf_37 (by decide) ?_
          refine lv_goto (tgt := 42) hx hb d_MM_rowOf_38 (by decide) ?_
          exact ct42 true (hc34.symm)
      · ---- 9F k5
        refine mt_ri (y := nI 5) (by rw [hkv]) ?_
        refine lv_istore (lv' := [(6, .int (nI 5)), (5, .int (nI i)), (4, .int (nI x)), (0, .ref (md 0)), (1, .int (nI nn)), (2, .int (nI 0)), (3, .int (nI wh))]) hx hb d_MM_rowOf_19 hl (by decide) rfl (fun ls hl => ?_)
        have ct42 : ∀ (z7 : Bool), z7 = x.testBit (a i % 32) → W p l e (gx_rm 0 0) s m ([.ref (md 0), .int (nI nn), .int (nI 0), .int (nI wh)] : List Value).toArray below meth c s.heap [] 0 0 (MQ below (vp_Si (fun r => r = nI (mt_pf k a b (mt_rc k a wh) nn))) ([.ref (md 0), .int (nI nn), .int (nI 0), .int (nI wh)] : List Value).toArray s 0 0 (fun _ => False)) (F0 m 42 ls [.int (mt_b z7)]) := by
          intro z7 hcut42
          refine lv_istore (lv' := [(7, .int (mt_b z7)), (6, .int (nI 5)), (5, .int (nI i)), (4, .int (nI x)), (0, .ref (md 0)), (1, .int (nI nn)), (2, .int (nI 0)), (3, .int (nI wh))]) hx hb d_MM_rowOf_42 hl (by decide) rfl (fun ls hl => ?_)
          have ct65 : ∀ (z8 : Bool), z8 = x.testBit (b i % 32) → W p l e (gx_rm 0 0) s m ([.ref (md 0), .int (nI nn), .int (nI 0), .int (nI wh)] : List Value).toArray below meth c s.heap [] 0 0 (MQ below (vp_Si (fun r => r = nI (mt_pf k a b (mt_rc k a wh) nn))) ([.ref (md 0), .int (nI nn), .int (nI 0), .int (nI wh)] : List Value).toArray s 0 0 (fun _ => False)) (F0 m 65 ls [.int (mt_b z8)]) := by
            intro z8 hcut65
            refine lv_istore (lv' := [(8, .int (mt_b z8)), (7, .int (mt_b z7)), (6, .int (nI 5)), (5, .int (nI i)), (4, .int (nI x)), (0, .ref (md 0)), (1, .int (nI nn)), (2, .int (nI 0)), (3, .int (nI wh))]) hx hb d_MM_rowOf_65 hl (by decide) rfl (fun ls hl => ?_)
            have hz7 := hcut42
            have hz8 := hcut65
            have hz9 := hz8
            refine lv_iload hx hb d_MM_rowOf_67 (lv_at hl 2 rfl) ?_
            refine lv_bipush (v := nI 6) hx hb d_MM_rowOf_69 (by decide) ?_
            refine lv_icmp_eq (tgt := 117) hx hb d_MM_rowOf_71 (by decide) (fun h9 => absurd h9 (by decide)) (fun _ => ?_)
            refine lv_iload hx hb d_MM_rowOf_74 (lv_at hl 2 rfl) ?_
            refine lv_iconst (v := nI 3) hx hb d_MM_rowOf_76 (by decide) ?_
            refine lv_icmp_ne (tgt := 90) hx hb d_MM_rowOf_77 (by decide) (fun _ => ?_) (fun h9 => absurd h9 (by decide))
            refine lv_iload hx hb d_MM_rowOf_90 (lv_at hl 2 rfl) ?_
            refine lv_iconst (v := nI 4) hx hb d_MM_rowOf_92 (by decide) ?_
            refine lv_icmp_ne (tgt := 106) hx hb d_MM_rowOf_93 (by decide) (fun _ => ?_) (fun h9 => absurd h9 (by decide))
            refine lv_iload hx hb d_MM_rowOf_106 (lv_at hl 2 rfl) ?_
            refine lv_iconst (v := nI 5) hx hb d_MM_rowOf_108 (by decide) ?_
            refine lv_icmp_ne (tgt := 121) hx hb d_MM_rowOf_109 (by decide) (fun h9 => absurd h9 (by decide)) (fun _ => ?_)
            refine lv_iload hx hb d_MM_rowOf_112 (lv_at hl 1 rfl) ?_
            refine lv_if_ne (tgt := 121) hx hb d_MM_rowOf_114 (by decide) (mt_nz fun hc114 => ?_) (mt_z fun hc114 => ?_)
            · ---- 9F k5 114T
              refine lv_iconst (v := nI 0) hx hb d_MM_rowOf_121 (by decide) ?_
              refine lv_istore (lv' := [(9, .int (nI 0)), (8, .int (mt_b z8)), (7, .int (mt_b z7)), (6, .int (nI 5)), (5, .int (nI i)), (4, .int (nI x)), (0, .ref (md 0)), (1, .int (nI nn)), (2, .int (nI 0)), (3, .int (nI wh))]) hx hb d_MM_rowOf_122 hl (by decide) rfl (fun ls hl => ?_)
              refine lv_iload hx hb d_MM_rowOf_124 (lv_at hl 0 rfl) ?_
              refine lv_if_ne (tgt := 205) hx hb d_MM_rowOf_126 (by decide) (fun h9 => absurd h9 (by decide)) (fun _ => ?_)
              refine lv_iload hx hb d_MM_rowOf_129 (lv_at hl 3 rfl) ?_
              refine lv_if_ne (tgt := 153) hx hb d_MM_rowOf_131 (by decide) (fun _ => ?_) (fun h9 => absurd h9 (by decide))
              refine lv_iload hx hb d_MM_rowOf_153 (lv_at hl 3 rfl) ?_
              refine lv_iconst (v := nI 1) hx hb d_MM_rowOf_155 (by decide) ?_
              refine lv_icmp_ne (tgt := 179) hx hb d_MM_rowOf_156 (by decide) (fun _ => ?_) (fun h9 => absurd h9 (by decide))
              refine lv_iload hx hb d_MM_rowOf_179 (lv_at hl 3 rfl) ?_
              refine lv_iconst (v := nI 2) hx hb d_MM_rowOf_181 (by decide) ?_
              refine lv_icmp_ne (tgt := 209) hx hb d_MM_rowOf_182 (by decide) (fun _ => ?_) (fun h9 => absurd h9 (by decide))
              refine lv_iconst (v := nI 0) hx hb d_MM_rowOf_209 (by decide) ?_
              refine lv_istore (lv' := [(9, .int (nI 0)), (8, .int (mt_b z8)), (7, .int (mt_b z7)), (6, .int (nI 5)), (5, .int (nI i)), (4, .int (nI x)), (0, .ref (md 0)), (1, .int (nI nn)), (2, .int (nI 0)), (3, .int (nI wh))]) hx hb d_MM_rowOf_210 hl (by decide) rfl (fun ls hl => ?_)
              refine lv_iload hx hb d_MM_rowOf_212 (lv_at hl 0 rfl) ?_
              refine lv_if_eq (tgt := 227) hx hb d_MM_rowOf_214 (by decide) (fun _ => ?_) (fun h9 => absurd h9 (by decide))
              refine lv_iload hx hb d_MM_rowOf_227 (lv_at hl 5 rfl) ?_
              refine lv_istore (lv' := [(4, .int (nI x)), (9, .int (nI 0)), (8, .int (mt_b z8)), (7, .int (mt_b z7)), (6, .int (nI 5)), (5, .int (nI i)), (0, .ref (md 0)), (1, .int (nI nn)), (2, .int (nI 0)), (3, .int (nI wh))]) hx hb d_MM_rowOf_229 hl (by decide) rfl (fun ls hl => ?_)
              refine lv_iinc (k := 5) (v := nI (i + 1)) (lv' := [(5, .int (nI (i + 1))), (4, .int (nI x)), (9, .int (nI 0)), (8, .int (mt_b z8)), (7, .int (mt_b z7)), (6, .int (nI 5)), (0, .ref (md 0)), (1, .int (nI nn)), (2, .int (nI 0)), (3, .int (nI wh))]) hx hb d_MM_rowOf_231 hl rfl (by rw [lit1]; exact nI_1 _) (by decide) rfl (fun ls hl => ?_)
              refine lv_goto (tgt := 6) hx hb d_MM_rowOf_234 (by decide) ?_
              exact ih6 _ (by omega) (i + 1) x ls rfl (by omega) (mt_pf_f hx9 (by rw [Nat.mod_eq_of_lt (by have := (hw i (by omega)).2.1 (by omega) (by omega); omega)] at hz7 hz8; simp [mt_in, hkv, mt_rc, ← hz7, ← hz8, hc114])) (lv_sub hl [0, 1, 6, 7, 8, 9] rfl)
            · ---- 9F k5 114F
              refine lv_iconst (v := nI 1) hx hb d_MM_rowOf_117 (by decide) ?_
              refine lv_goto (tgt := 122) hx hb d_MM_rowOf_118 (by decide) ?_
              refine lv_istore (lv' := [(9, .int (nI 1)), (8, .int (mt_b z8)), (7, .int (mt_b z7)), (6, .int (nI 5)), (5, .int (nI i)), (4, .int (nI x)), (0, .ref (md 0)), (1, .int (nI nn)), (2, .int (nI 0)), (3, .int (nI wh))]) hx hb d_MM_rowOf_122 hl (by decide) rfl (fun ls hl => ?_)
              refine lv_iload hx hb d_MM_rowOf_124 (lv_at hl 0 rfl) ?_
              refine lv_if_ne (tgt := 205) hx hb d_MM_rowOf_126 (by decide) (fun _ => ?_) (fun h9 => absurd h9 (by decide))
              refine lv_iconst (v := nI 1) hx hb d_MM_rowOf_205 (by decide) ?_
              refine lv_goto (tgt := 210) hx hb d_MM_rowOf_206 (by decide) ?_
              refine lv_istore (lv' := [(9, .int (nI 1)), (8, .int (mt_b z8)), (7, .int (mt_b z7)), (6, .int (nI 5)), (5, .int (nI i)), (4, .int (nI x)), (0, .ref (md 0)), (1, .int (nI nn)), (2, .int (nI 0)), (3, .int (nI wh))]) hx hb d_MM_rowOf_210 hl (by decide) rfl (fun ls hl => ?_)
              refine lv_iload hx hb d_MM_rowOf_212 (lv_at hl 0 rfl) ?_
              refine lv_if_eq (tgt := 227) hx hb d_MM_rowOf_214 (by decide) (fun h9 => absurd h9 (by decide)) (fun _ => ?_)
              refine lv_iload hx hb d_MM_rowOf_217 (lv_at hl 5 rfl) ?_
              refine lv_iconst (v := nI 1) hx hb d_MM_rowOf_219 (by decide) ?_
              refine lv_iload hx hb d_MM_rowOf_220 (lv_at hl 4 rfl) ?_
              refine lv_ishl hx hb d_MM_rowOf_222 ?_
              refine mt_ri (y := nI (2 ^ i)) (mt_shl (by omega)) ?_
              refine lv_ior hx hb d_MM_rowOf_223 ?_
              refine mt_ri (y := nI (x ||| (2 ^ i))) (mt_or _ _) ?_
              refine lv_goto (tgt := 229) hx hb d_MM_rowOf_224 (by decide) ?_
              refine lv_istore (lv' := [(4, .int (nI (x ||| (2 ^ i)))), (9, .int (nI 1)), (8, .int (mt_b z8)), (7, .int (mt_b z7)), (6, .int (nI 5)), (5, .int (nI i)), (0, .ref (md 0)), (1, .int (nI nn)), (2, .int (nI 0)), (3, .int (nI wh))]) hx hb d_MM_rowOf_229 hl (by decide) rfl (fun ls hl => ?_)
              refine lv_iinc (k := 5) (v := nI (i + 1)) (lv' := [(5, .int (nI (i + 1))), (4, .int (nI (x ||| (2 ^ i)))), (9, .int (nI 1)), (8, .int (mt_b z8)), (7, .int (mt_b z7)), (6, .int (nI 5)), (0, .ref (md 0)), (1, .int (nI nn)), (2, .int (nI 0)), (3, .int (nI wh))]) hx hb d_MM_rowOf_231 hl rfl (by rw [lit1]; exact nI_1 _) (by decide) rfl (fun ls hl => ?_)
              refine lv_goto (tgt := 6) hx hb d_MM_rowOf_234 (by decide) ?_
              exact ih6 _ (by omega) (i + 1) (x ||| (2 ^ i)) ls rfl (by omega) (mt_pf_t hx9 (by rw [Nat.mod_eq_of_lt (by have := (hw i (by omega)).2.1 (by omega) (by omega); omega)] at hz7 hz8; simp [mt_in, hkv, mt_rc, ← hz7, ← hz8, hc114])) (lv_sub hl [0, 1, 6, 7, 8, 9] rfl)
          refine lv_iload hx hb d_MM_rowOf_44 (lv_at hl 3 rfl) ?_
          refine lv_aload_n hx hb d_MM_rowOf_46 rfl (lv_at hl 4 rfl) ?_
          refine va_get (D := g.1) (own := R_MM) (ref := R_MM) (ci := 5) (v := .ref (md 3)) (C := R_MM) (T := F_MM) (N := 16) hx hb hts in_MM hown hG.1 hP 0 rfl rfl 3 (by decide) (hts _ wd_386) (fun _ h9 => h9) rfl d_MM_rowOf_47 ?_
          refine lv_iload hx hb d_MM_rowOf_50 (lv_at hl 2 rfl) ?_
          refine va_iald hx hb hG.1 hP 3 0 rfl rfl (vp_in_nI (by omega) (by decide)) d_MM_rowOf_52 ?_
          refine mt_ri (y := nI (b i)) (by rw [nI_clamp (by omega)]; exact (hT _ (by omega)).2.2) ?_
          refine lv_ishr hx hb d_MM_rowOf_53 ?_
          refine lv_iconst (v := nI 1) hx hb d_MM_rowOf_54 (by decide) ?_
          refine lv_iand hx hb d_MM_rowOf_55 ?_
          refine mt_ri (y := mt_b (Nat.testBit x ((b i) % 32))) (mt_bit32 (by omega) (by omega)) ?_
          refine lv_iconst (v := nI 1) hx hb d_MM_rowOf_56 (by decide) ?_
          refine lv_icmp_ne (tgt := 64) hx hb d_MM_rowOf_57 (by decide) (mt_nb1 fun hc57 => ?_) (mt_b1 fun hc57 => ?_)
          · ---- 9F k5 57T
            refine lv_iconst (v := nI 0) hx hb d_MM_rowOf_64 (by decide) ?_
            exact ct65 false (hc57.symm)
          · ---- 9F k5 57F
            refine lv_iconst (v := nI 1) hx hb d_MM_rowOf_60 (by decide) ?_
            refine lv_goto (tgt := 65) hx hb d_MM_rowOf_61 (by decide) ?_
            exact ct65 true (hc57.symm)
        refine lv_iload hx hb d_MM_rowOf_21 (lv_at hl 2 rfl) ?_
        refine lv_aload_n hx hb d_MM_rowOf_23 rfl (lv_at hl 3 rfl) ?_
        refine va_get (D := g.1) (own := R_MM) (ref := R_MM) (ci := 5) (v := .ref (md 2)) (C := R_MM) (T := F_MM) (N := 16) hx hb hts in_MM hown hG.1 hP 0 rfl rfl 2 (by decide) (hts _ wd_385) (fun _ h9 => h9) rfl d_MM_rowOf_24 ?_
        refine lv_iload hx hb d_MM_rowOf_27 (lv_at hl 1 rfl) ?_
        refine va_iald hx hb hG.1 hP 2 0 rfl rfl (vp_in_nI (by omega) (by decide)) d_MM_rowOf_29 ?_
        refine mt_ri (y := nI (a i)) (by rw [nI_clamp (by omega)]; exact (hT _ (by omega)).2.1) ?_
        refine lv_ishr hx hb d_MM_rowOf_30 ?_
        refine lv_iconst (v := nI 1) hx hb d_MM_rowOf_31 (by decide) ?_
        refine lv_iand hx hb d_MM_rowOf_32 ?_
        refine mt_ri (y := mt_b (Nat.testBit x ((a i) % 32))) (mt_bit32 (by omega) (by omega)) ?_
        refine lv_iconst (v := nI 1) hx hb d_MM_rowOf_33 (by decide) ?_
        refine lv_icmp_ne (tgt := 41) hx hb d_MM_rowOf_34 (by decide) (mt_nb1 fun hc34 => ?_) (mt_b1 fun hc34 => ?_)
        · ---- 9F k5 34T
          refine lv_iconst (v := nI 0) hx hb d_MM_rowOf_41 (by decide) ?_
          exact ct42 false (hc34.symm)
        · ---- 9F k5 34F
          refine lv_iconst (v := nI 1) hx hb d_MM_rowOf_37 (by decide) ?_
          refine lv_goto (tgt := 42) hx hb d_MM_rowOf_38 (by decide) ?_
          exact ct42 true (hc34.symm)
      · ---- 9F k6
        refine mt_ri (y := nI 6) (by rw [hkv]) ?_
        refine lv_istore (lv' := [(6, .int (nI 6)), (5, .int (nI i)), (4, .int (nI x)), (0, .ref (md 0)), (1, .int (nI nn)), (2, .int (nI 0)), (3, .int (nI wh))]) hx hb d_MM_rowOf_19 hl (by decide) rfl (fun ls hl => ?_)
        have ct42 : ∀ (z7 : Bool), z7 = x.testBit (a i % 32) → W p l e (gx_rm 0 0) s m ([.ref (md 0), .int (nI nn), .int (nI 0), .int (nI wh)] : List Value).toArray below meth c s.heap [] 0 0 (MQ below (vp_Si (fun r => r = nI (mt_pf k a b (mt_rc k a wh) nn))) ([.ref (md 0), .int (nI nn), .int (nI 0), .int (nI wh)] : List Value).toArray s 0 0 (fun _ => False)) (F0 m 42 ls [.int (mt_b z7)]) := by
          intro z7 hcut42
          refine lv_istore (lv' := [(7, .int (mt_b z7)), (6, .int (nI 6)), (5, .int (nI i)), (4, .int (nI x)), (0, .ref (md 0)), (1, .int (nI nn)), (2, .int (nI 0)), (3, .int (nI wh))]) hx hb d_MM_rowOf_42 hl (by decide) rfl (fun ls hl => ?_)
          have ct65 : ∀ (z8 : Bool), z8 = x.testBit (b i % 32) → W p l e (gx_rm 0 0) s m ([.ref (md 0), .int (nI nn), .int (nI 0), .int (nI wh)] : List Value).toArray below meth c s.heap [] 0 0 (MQ below (vp_Si (fun r => r = nI (mt_pf k a b (mt_rc k a wh) nn))) ([.ref (md 0), .int (nI nn), .int (nI 0), .int (nI wh)] : List Value).toArray s 0 0 (fun _ => False)) (F0 m 65 ls [.int (mt_b z8)]) := by
            intro z8 hcut65
            refine lv_istore (lv' := [(8, .int (mt_b z8)), (7, .int (mt_b z7)), (6, .int (nI 6)), (5, .int (nI i)), (4, .int (nI x)), (0, .ref (md 0)), (1, .int (nI nn)), (2, .int (nI 0)), (3, .int (nI wh))]) hx hb d_MM_rowOf_65 hl (by decide) rfl (fun ls hl => ?_)
            have hz7 := hcut42
            have hz8 := hcut65
            have hz9 := hz8
            refine lv_iload hx hb d_MM_rowOf_67 (lv_at hl 2 rfl) ?_
            refine lv_bipush (v := nI 6) hx hb d_MM_rowOf_69 (by decide) ?_
            refine lv_icmp_eq (tgt := 117) hx hb d_MM_rowOf_71 (by decide) (fun _ => ?_) (fun h9 => absurd h9 (by decide))
            refine lv_iconst (v := nI 1) hx hb d_MM_rowOf_117 (by decide) ?_
            refine lv_goto (tgt := 122) hx hb d_MM_rowOf_118 (by decide) ?_
            refine lv_istore (lv' := [(9, .int (nI 1)), (8, .int (mt_b z8)), (7, .int (mt_b z7)), (6, .int (nI 6)), (5, .int (nI i)), (4, .int (nI x)), (0, .ref (md 0)), (1, .int (nI nn)), (2, .int (nI 0)), (3, .int (nI wh))]) hx hb d_MM_rowOf_122 hl (by decide) rfl (fun ls hl => ?_)
            refine lv_iload hx hb d_MM_rowOf_124 (lv_at hl 0 rfl) ?_
            refine lv_if_ne (tgt := 205) hx hb d_MM_rowOf_126 (by decide) (fun _ => ?_) (fun h9 => absurd h9 (by decide))
            refine lv_iconst (v := nI 1) hx hb d_MM_rowOf_205 (by decide) ?_
            refine lv_goto (tgt := 210) hx hb d_MM_rowOf_206 (by decide) ?_
            refine lv_istore (lv' := [(9, .int (nI 1)), (8, .int (mt_b z8)), (7, .int (mt_b z7)), (6, .int (nI 6)), (5, .int (nI i)), (4, .int (nI x)), (0, .ref (md 0)), (1, .int (nI nn)), (2, .int (nI 0)), (3, .int (nI wh))]) hx hb d_MM_rowOf_210 hl (by decide) rfl (fun ls hl => ?_)
            refine lv_iload hx hb d_MM_rowOf_212 (lv_at hl 0 rfl) ?_
            refine lv_if_eq (tgt := 227) hx hb d_MM_rowOf_214 (by decide) (fun h9 => absurd h9 (by decide)) (fun _ => ?_)
            refine lv_iload hx hb d_MM_rowOf_217 (lv_at hl 5 rfl) ?_
            refine lv_iconst (v := nI 1) hx hb d_MM_rowOf_219 (by decide) ?_
            refine lv_iload hx hb d_MM_rowOf_220 (lv_at hl 4 rfl) ?_
            refine lv_ishl hx hb d_MM_rowOf_222 ?_
            refine mt_ri (y := nI (2 ^ i)) (mt_shl (by omega)) ?_
            refine lv_ior hx hb d_MM_rowOf_223 ?_
            refine mt_ri (y := nI (x ||| (2 ^ i))) (mt_or _ _) ?_
            refine lv_goto (tgt := 229) hx hb d_MM_rowOf_224 (by decide) ?_
            refine lv_istore (lv' := [(4, .int (nI (x ||| (2 ^ i)))), (9, .int (nI 1)), (8, .int (mt_b z8)), (7, .int (mt_b z7)), (6, .int (nI 6)), (5, .int (nI i)), (0, .ref (md 0)), (1, .int (nI nn)), (2, .int (nI 0)), (3, .int (nI wh))]) hx hb d_MM_rowOf_229 hl (by decide) rfl (fun ls hl => ?_)
            refine lv_iinc (k := 5) (v := nI (i + 1)) (lv' := [(5, .int (nI (i + 1))), (4, .int (nI (x ||| (2 ^ i)))), (9, .int (nI 1)), (8, .int (mt_b z8)), (7, .int (mt_b z7)), (6, .int (nI 6)), (0, .ref (md 0)), (1, .int (nI nn)), (2, .int (nI 0)), (3, .int (nI wh))]) hx hb d_MM_rowOf_231 hl rfl (by rw [lit1]; exact nI_1 _) (by decide) rfl (fun ls hl => ?_)
            refine lv_goto (tgt := 6) hx hb d_MM_rowOf_234 (by decide) ?_
            exact ih6 _ (by omega) (i + 1) (x ||| (2 ^ i)) ls rfl (by omega) (mt_pf_t hx9 (by simp [mt_in, hkv, mt_rc])) (lv_sub hl [0, 1, 6, 7, 8, 9] rfl)
          refine lv_iload hx hb d_MM_rowOf_44 (lv_at hl 3 rfl) ?_
          refine lv_aload_n hx hb d_MM_rowOf_46 rfl (lv_at hl 4 rfl) ?_
          refine va_get (D := g.1) (own := R_MM) (ref := R_MM) (ci := 5) (v := .ref (md 3)) (C := R_MM) (T := F_MM) (N := 16) hx hb hts in_MM hown hG.1 hP 0 rfl rfl 3 (by decide) (hts _ wd_386) (fun _ h9 => h9) rfl d_MM_rowOf_47 ?_
          refine lv_iload hx hb d_MM_rowOf_50 (lv_at hl 2 rfl) ?_
          refine va_iald hx hb hG.1 hP 3 0 rfl rfl (vp_in_nI (by omega) (by decide)) d_MM_rowOf_52 ?_
          refine mt_ri (y := nI (b i)) (by rw [nI_clamp (by omega)]; exact (hT _ (by omega)).2.2) ?_
          refine lv_ishr hx hb d_MM_rowOf_53 ?_
          refine lv_iconst (v := nI 1) hx hb d_MM_rowOf_54 (by decide) ?_
          refine lv_iand hx hb d_MM_rowOf_55 ?_
          refine mt_ri (y := mt_b (Nat.testBit x ((b i) % 32))) (mt_bit32 (by omega) (by omega)) ?_
          refine lv_iconst (v := nI 1) hx hb d_MM_rowOf_56 (by decide) ?_
          refine lv_icmp_ne (tgt := 64) hx hb d_MM_rowOf_57 (by decide) (mt_nb1 fun hc57 => ?_) (mt_b1 fun hc57 => ?_)
          · ---- 9F k6 57T
            refine lv_iconst (v := nI 0) hx hb d_MM_rowOf_64 (by decide) ?_
            exact ct65 false (hc57.symm)
          · ---- 9F k6 57F
            refine lv_iconst (v := nI 1) hx hb d_MM_rowOf_60 (by decide) ?_
            refine lv_goto (tgt := 65) hx hb d_MM_rowOf_61 (by decide) ?_
            exact ct65 true (hc57.symm)
        refine lv_iload hx hb d_MM_rowOf_21 (lv_at hl 2 rfl) ?_
        refine lv_aload_n hx hb d_MM_rowOf_23 rfl (lv_at hl 3 rfl) ?_
        refine va_get (D := g.1) (own := R_MM) (ref := R_MM) (ci := 5) (v := .ref (md 2)) (C := R_MM) (T := F_MM) (N := 16) hx hb hts in_MM hown hG.1 hP 0 rfl rfl 2 (by decide) (hts _ wd_385) (fun _ h9 => h9) rfl d_MM_rowOf_24 ?_
        refine lv_iload hx hb d_MM_rowOf_27 (lv_at hl 1 rfl) ?_
        refine va_iald hx hb hG.1 hP 2 0 rfl rfl (vp_in_nI (by omega) (by decide)) d_MM_rowOf_29 ?_
        refine mt_ri (y := nI (a i)) (by rw [nI_clamp (by omega)]; exact (hT _ (by omega)).2.1) ?_
        refine lv_ishr hx hb d_MM_rowOf_30 ?_
        refine lv_iconst (v := nI 1) hx hb d_MM_rowOf_31 (by decide) ?_
        refine lv_iand hx hb d_MM_rowOf_32 ?_
        refine mt_ri (y := mt_b (Nat.testBit x ((a i) % 32))) (mt_bit32 (by omega) (by omega)) ?_
        refine lv_iconst (v := nI 1) hx hb d_MM_rowOf_33 (by decide) ?_
        refine lv_icmp_ne (tgt := 41) hx hb d_MM_rowOf_34 (by decide) (mt_nb1 fun hc34 => ?_) (mt_b1 fun hc34 => ?_)
        · ---- 9F k6 34T
          refine lv_iconst (v := nI 0) hx hb d_MM_rowOf_41 (by decide) ?_
          exact ct42 false (hc34.symm)
        · ---- 9F k6 34F
          refine lv_iconst (v := nI 1) hx hb d_MM_rowOf_37 (by decide) ?_
          refine lv_goto (tgt := 42) hx hb d_MM_rowOf_38 (by decide) ?_
          exact ct42 true (hc34.symm)
  exact lp6 _ 0 0 ls rfl (Nat.zero_le _) (rfl) (lv_sub hl [0, 1, 2, 3, 4, 5] rfl)

set_option maxHeartbeats 4000000 in
set_option maxRecDepth 100000 in
theorem c_MM_rowOf1 {g : gG} {md : Nat → Nat} {J : Nat → Nat → Int32} {n v kn pr ar : Nat} {X : Nat → Int64} {k a b : Nat → Nat} {nn wh : Nat} {l : Launch} (hT : mt_MT J nn k a b) (hn13 : nn ≤ 13) (hw : mt_wf k a b nn) (hN : mt_NU J pr ar nn k) (hwh : wh < 8192) :
    gc_RO l y_MM_rowOf (gx_ws y_MM_rowOf b_MM_rowOf 10 (some .int)) 0 0 g [.ref (md 0), .int (nI nn), .int (nI 1), .int (nI wh)] (mW g md J n v kn pr ar X) (fun r => r = nI (mt_pf k a b (fun t => k t == 1 && Nat.testBit wh (mt_pl k t)) nn)) := by
  refine gx_body (by decide) (Nat.le_of_ble_eq_true rfl) ?_
  intro p e s m below meth c ls hAt hB hl
  obtain ⟨hx, hb, hml, hown, hts, hr, hlk, hnm⟩ := hAt
  have hown : s.vm.findClass R_MM = some m.cls := hown
  obtain ⟨hP, hG⟩ := hB
  have hl : lv_has ls 10 [(0, .ref (md 0)), (1, .int (nI nn)), (2, .int (nI 1)), (3, .int (nI wh))] := hl
  refine lv_iconst (v := nI 0) hx hb d_MM_rowOf_0 (by decide) ?_
  refine lv_istore (lv' := [(4, .int (nI 0)), (0, .ref (md 0)), (1, .int (nI nn)), (2, .int (nI 1)), (3, .int (nI wh))]) hx hb d_MM_rowOf_1 hl (by decide) rfl (fun ls hl => ?_)
  refine lv_iconst (v := nI 0) hx hb d_MM_rowOf_3 (by decide) ?_
  refine lv_istore (lv' := [(5, .int (nI 0)), (4, .int (nI 0)), (0, .ref (md 0)), (1, .int (nI nn)), (2, .int (nI 1)), (3, .int (nI wh))]) hx hb d_MM_rowOf_4 hl (by decide) rfl (fun ls hl => ?_)
  have lp6 : ∀ (d : Nat) (i : Nat) (x : Nat) (ls : Array Slot), d = nn - i → (i ≤ nn) → (x = mt_pf k a b (fun t => k t == 1 && Nat.testBit wh (mt_pl k t)) i) → lv_has ls 10 [(5, .int (nI i)), (4, .int (nI x)), (0, .ref (md 0)), (1, .int (nI nn)), (2, .int (nI 1)), (3, .int (nI wh))] → W p l e (gx_rm 0 0) s m ([.ref (md 0), .int (nI nn), .int (nI 1), .int (nI wh)] : List Value).toArray below meth c s.heap [] 0 0 (MQ below (vp_Si (fun r => r = nI (mt_pf k a b (fun t => k t == 1 && Nat.testBit wh (mt_pl k t)) nn))) ([.ref (md 0), .int (nI nn), .int (nI 1), .int (nI wh)] : List Value).toArray s 0 0 (fun _ => False)) (F0 m 6 ls []) := by
    intro d
    induction d using Nat.strongRecOn with
    | ind d ih6 =>
    intro i x ls hd hi hx9 hl
    refine lv_iload hx hb d_MM_rowOf_6 (lv_at hl 0 rfl) ?_
    refine lv_iload_n hx hb d_MM_rowOf_8 rfl (lv_at hl 3 rfl) ?_
    refine lv_icmp_ge (tgt := 237) hx hb d_MM_rowOf_9 (by decide) (mt_le (by omega) (by omega) fun hc9 => ?_) (mt_nle (by omega) (by omega) fun hc9 => ?_)
    · ---- 9T
      refine lv_iload hx hb d_MM_rowOf_237 (lv_at hl 1 rfl) ?_
      exact gc_reti (post := fun r => r = nI (mt_pf k a b (fun t => k t == 1 && Nat.testBit wh (mt_pl k t)) nn)) hx hb hr hlk (by rw [hx9, show i = nn by omega]) d_MM_rowOf_239
    · ---- 9F
      have hw1 := hw i (by omega)
      have hx13 : x < 8192 := by rw [hx9]; exact mt_lt13 (mt_pf_lt _ _ _ _ _) (by omega)
      have hpl := mt_pl_le (k := k) i
      refine lv_aload_n hx hb d_MM_rowOf_12 rfl (lv_at hl 2 rfl) ?_
      refine va_get (D := g.1) (own := R_MM) (ref := R_MM) (ci := 5) (v := .ref (md 1)) (C := R_MM) (T := F_MM) (N := 16) hx hb hts in_MM hown hG.1 hP 0 rfl rfl 1 (by decide) (hts _ wd_384) (fun _ h9 => h9) rfl d_MM_rowOf_13 ?_
      refine lv_iload hx hb d_MM_rowOf_16 (lv_at hl 0 rfl) ?_
      refine va_iald hx hb hG.1 hP 1 0 rfl rfl (vp_in_nI (by omega) (by decide)) d_MM_rowOf_18 ?_
      refine mt_ri (y := nI (k i)) (by rw [nI_clamp (by omega)]; exact (hT _ (by omega)).1) ?_
      have hk7 : k i = 0 ∨ k i = 1 ∨ k i = 2 ∨ k i = 3 ∨ k i = 4 ∨ k i = 5 ∨ k i = 6 := by omega
      rcases hk7 with hkv | hkv | hkv | hkv | hkv | hkv | hkv
      · ---- 9F k0
        refine mt_ri (y := nI 0) (by rw [hkv]) ?_
        refine lv_istore (lv' := [(6, .int (nI 0)), (5, .int (nI i)), (4, .int (nI x)), (0, .ref (md 0)), (1, .int (nI nn)), (2, .int (nI 1)), (3, .int (nI wh))]) hx hb d_MM_rowOf_19 hl (by decide) rfl (fun ls hl => ?_)
        have ct42 : ∀ (z7 : Bool), z7 = x.testBit (a i % 32) → W p l e (gx_rm 0 0) s m ([.ref (md 0), .int (nI nn), .int (nI 1), .int (nI wh)] : List Value).toArray below meth c s.heap [] 0 0 (MQ below (vp_Si (fun r => r = nI (mt_pf k a b (fun t => k t == 1 && Nat.testBit wh (mt_pl k t)) nn))) ([.ref (md 0), .int (nI nn), .int (nI 1), .int (nI wh)] : List Value).toArray s 0 0 (fun _ => False)) (F0 m 42 ls [.int (mt_b z7)]) := by
          intro z7 hcut42
          refine lv_istore (lv' := [(7, .int (mt_b z7)), (6, .int (nI 0)), (5, .int (nI i)), (4, .int (nI x)), (0, .ref (md 0)), (1, .int (nI nn)), (2, .int (nI 1)), (3, .int (nI wh))]) hx hb d_MM_rowOf_42 hl (by decide) rfl (fun ls hl => ?_)
          have ct65 : ∀ (z8 : Bool), z8 = x.testBit (b i % 32) → W p l e (gx_rm 0 0) s m ([.ref (md 0), .int (nI nn), .int (nI 1), .int (nI wh)] : List Value).toArray below meth c s.heap [] 0 0 (MQ below (vp_Si (fun r => r = nI (mt_pf k a b (fun t => k t == 1 && Nat.testBit wh (mt_pl k t)) nn))) ([.ref (md 0), .int (nI nn), .int (nI 1), .int (nI wh)] : List Value).toArray s 0 0 (fun _ => False)) (F0 m 65 ls [.int (mt_b z8)]) := by
            intro z8 hcut65
            refine lv_istore (lv' := [(8, .int (mt_b z8)), (7, .int (mt_b z7)), (6, .int (nI 0)), (5, .int (nI i)), (4, .int (nI x)), (0, .ref (md 0)), (1, .int (nI nn)), (2, .int (nI 1)), (3, .int (nI wh))]) hx hb d_MM_rowOf_65 hl (by decide) rfl (fun ls hl => ?_)
            have hz7 := hcut42
            have hz8 := hcut65
            have hz9 := hz8
            refine lv_iload hx hb d_MM_rowOf_67 (lv_at hl 2 rfl) ?_
            refine lv_bipush (v := nI 6) hx hb d_MM_rowOf_69 (by decide) ?_
            refine lv_icmp_eq (tgt := 117) hx hb d_MM_rowOf_71 (by decide) (fun h9 => absurd h9 (by decide)) (fun _ => ?_)
            refine lv_iload hx hb d_MM_rowOf_74 (lv_at hl 2 rfl) ?_
            refine lv_iconst (v := nI 3) hx hb d_MM_rowOf_76 (by decide) ?_
            refine lv_icmp_ne (tgt := 90) hx hb d_MM_rowOf_77 (by decide) (fun _ => ?_) (fun h9 => absurd h9 (by decide))
            refine lv_iload hx hb d_MM_rowOf_90 (lv_at hl 2 rfl) ?_
            refine lv_iconst (v := nI 4) hx hb d_MM_rowOf_92 (by decide) ?_
            refine lv_icmp_ne (tgt := 106) hx hb d_MM_rowOf_93 (by decide) (fun _ => ?_) (fun h9 => absurd h9 (by decide))
            refine lv_iload hx hb d_MM_rowOf_106 (lv_at hl 2 rfl) ?_
            refine lv_iconst (v := nI 5) hx hb d_MM_rowOf_108 (by decide) ?_
            refine lv_icmp_ne (tgt := 121) hx hb d_MM_rowOf_109 (by decide) (fun _ => ?_) (fun h9 => absurd h9 (by decide))
            refine lv_iconst (v := nI 0) hx hb d_MM_rowOf_121 (by decide) ?_
            refine lv_istore (lv' := [(9, .int (nI 0)), (8, .int (mt_b z8)), (7, .int (mt_b z7)), (6, .int (nI 0)), (5, .int (nI i)), (4, .int (nI x)), (0, .ref (md 0)), (1, .int (nI nn)), (2, .int (nI 1)), (3, .int (nI wh))]) hx hb d_MM_rowOf_122 hl (by decide) rfl (fun ls hl => ?_)
            refine lv_iload hx hb d_MM_rowOf_124 (lv_at hl 0 rfl) ?_
            refine lv_if_ne (tgt := 205) hx hb d_MM_rowOf_126 (by decide) (fun h9 => absurd h9 (by decide)) (fun _ => ?_)
            refine lv_iload hx hb d_MM_rowOf_129 (lv_at hl 3 rfl) ?_
            refine lv_if_ne (tgt := 153) hx hb d_MM_rowOf_131 (by decide) (fun h9 => absurd h9 (by decide)) (fun _ => ?_)
            refine lv_iload_n hx hb d_MM_rowOf_134 rfl (lv_at hl 8 rfl) ?_
            refine lv_if_ne (tgt := 153) hx hb d_MM_rowOf_135 (by decide) (fun _ => ?_) (fun h9 => absurd h9 (by decide))
            refine lv_iload hx hb d_MM_rowOf_153 (lv_at hl 3 rfl) ?_
            refine lv_iconst (v := nI 1) hx hb d_MM_rowOf_155 (by decide) ?_
            refine lv_icmp_ne (tgt := 179) hx hb d_MM_rowOf_156 (by decide) (fun _ => ?_) (fun h9 => absurd h9 (by decide))
            refine lv_iload hx hb d_MM_rowOf_179 (lv_at hl 3 rfl) ?_
            refine lv_iconst (v := nI 2) hx hb d_MM_rowOf_181 (by decide) ?_
            refine lv_icmp_ne (tgt := 209) hx hb d_MM_rowOf_182 (by decide) (fun _ => ?_) (fun h9 => absurd h9 (by decide))
            refine lv_iconst (v := nI 0) hx hb d_MM_rowOf_209 (by decide) ?_
            refine lv_istore (lv' := [(9, .int (nI 0)), (8, .int (mt_b z8)), (7, .int (mt_b z7)), (6, .int (nI 0)), (5, .int (nI i)), (4, .int (nI x)), (0, .ref (md 0)), (1, .int (nI nn)), (2, .int (nI 1)), (3, .int (nI wh))]) hx hb d_MM_rowOf_210 hl (by decide) rfl (fun ls hl => ?_)
            refine lv_iload hx hb d_MM_rowOf_212 (lv_at hl 0 rfl) ?_
            refine lv_if_eq (tgt := 227) hx hb d_MM_rowOf_214 (by decide) (fun _ => ?_) (fun h9 => absurd h9 (by decide))
            refine lv_iload hx hb d_MM_rowOf_227 (lv_at hl 5 rfl) ?_
            refine lv_istore (lv' := [(4, .int (nI x)), (9, .int (nI 0)), (8, .int (mt_b z8)), (7, .int (mt_b z7)), (6, .int (nI 0)), (5, .int (nI i)), (0, .ref (md 0)), (1, .int (nI nn)), (2, .int (nI 1)), (3, .int (nI wh))]) hx hb d_MM_rowOf_229 hl (by decide) rfl (fun ls hl => ?_)
            refine lv_iinc (k := 5) (v := nI (i + 1)) (lv' := [(5, .int (nI (i + 1))), (4, .int (nI x)), (9, .int (nI 0)), (8, .int (mt_b z8)), (7, .int (mt_b z7)), (6, .int (nI 0)), (0, .ref (md 0)), (1, .int (nI nn)), (2, .int (nI 1)), (3, .int (nI wh))]) hx hb d_MM_rowOf_231 hl rfl (by rw [lit1]; exact nI_1 _) (by decide) rfl (fun ls hl => ?_)
            refine lv_goto (tgt := 6) hx hb d_MM_rowOf_234 (by decide) ?_
            exact ih6 _ (by omega) (i + 1) x ls rfl (by omega) (mt_pf_f hx9 (by simp [mt_in, hkv])) (lv_sub hl [0, 1, 6, 7, 8, 9] rfl)
          refine lv_iload hx hb d_MM_rowOf_44 (lv_at hl 3 rfl) ?_
          refine lv_aload_n hx hb d_MM_rowOf_46 rfl (lv_at hl 4 rfl) ?_
          refine va_get (D := g.1) (own := R_MM) (ref := R_MM) (ci := 5) (v := .ref (md 3)) (C := R_MM) (T := F_MM) (N := 16) hx hb hts in_MM hown hG.1 hP 0 rfl rfl 3 (by decide) (hts _ wd_386) (fun _ h9 => h9) rfl d_MM_rowOf_47 ?_
          refine lv_iload hx hb d_MM_rowOf_50 (lv_at hl 2 rfl) ?_
          refine va_iald hx hb hG.1 hP 3 0 rfl rfl (vp_in_nI (by omega) (by decide)) d_MM_rowOf_52 ?_
          refine mt_ri (y := nI (b i)) (by rw [nI_clamp (by omega)]; exact (hT _ (by omega)).2.2) ?_
          refine lv_ishr hx hb d_MM_rowOf_53 ?_
          refine lv_iconst (v := nI 1) hx hb d_MM_rowOf_54 (by decide) ?_
          refine lv_iand hx hb d_MM_rowOf_55 ?_
          refine mt_ri (y := mt_b (Nat.testBit x ((b i) % 32))) (mt_bit32 (by omega) (by omega)) ?_
          refine lv_iconst (v := nI 1) hx hb d_MM_rowOf_56 (by decide) ?_
          refine lv_icmp_ne (tgt := 64) hx hb d_MM_rowOf_57 (by decide) (mt_nb1 fun hc57 => ?_) (mt_b1 fun hc57 => ?_)
          · ---- 9F k0 57T
            refine lv_iconst (v := nI 0) hx hb d_MM_rowOf_64 (by decide) ?_
            exact ct65 false (hc57.symm)
          · ---- 9F k0 57F
            refine lv_iconst (v := nI 1) hx hb d_MM_rowOf_60 (by decide) ?_
            refine lv_goto (tgt := 65) hx hb d_MM_rowOf_61 (by decide) ?_
            exact ct65 true (hc57.symm)
        refine lv_iload hx hb d_MM_rowOf_21 (lv_at hl 2 rfl) ?_
        refine lv_aload_n hx hb d_MM_rowOf_23 rfl (lv_at hl 3 rfl) ?_
        refine va_get (D := g.1) (own := R_MM) (ref := R_MM) (ci := 5) (v := .ref (md 2)) (C := R_MM) (T := F_MM) (N := 16) hx hb hts in_MM hown hG.1 hP 0 rfl rfl 2 (by decide) (hts _ wd_385) (fun _ h9 => h9) rfl d_MM_rowOf_24 ?_
        refine lv_iload hx hb d_MM_rowOf_27 (lv_at hl 1 rfl) ?_
        refine va_iald hx hb hG.1 hP 2 0 rfl rfl (vp_in_nI (by omega) (by decide)) d_MM_rowOf_29 ?_
        refine mt_ri (y := nI (a i)) (by rw [nI_clamp (by omega)]; exact (hT _ (by omega)).2.1) ?_
        refine lv_ishr hx hb d_MM_rowOf_30 ?_
        refine lv_iconst (v := nI 1) hx hb d_MM_rowOf_31 (by decide) ?_
        refine lv_iand hx hb d_MM_rowOf_32 ?_
        refine mt_ri (y := mt_b (Nat.testBit x ((a i) % 32))) (mt_bit32 (by omega) (by omega)) ?_
        refine lv_iconst (v := nI 1) hx hb d_MM_rowOf_33 (by decide) ?_
        refine lv_icmp_ne (tgt := 41) hx hb d_MM_rowOf_34 (by decide) (mt_nb1 fun hc34 => ?_) (mt_b1 fun hc34 => ?_)
        · ---- 9F k0 34T
          refine lv_iconst (v := nI 0) hx hb d_MM_rowOf_41 (by decide) ?_
          exact ct42 false (hc34.symm)
        · ---- 9F k0 34F
          refine lv_iconst (v := nI 1) hx hb d_MM_rowOf_37 (by decide) ?_
          refine lv_goto (tgt := 42) hx hb d_MM_rowOf_38 (by decide) ?_
          exact ct42 true (hc34.symm)
      · ---- 9F k1
        refine mt_ri (y := nI 1) (by rw [hkv]) ?_
        refine lv_istore (lv' := [(6, .int (nI 1)), (5, .int (nI i)), (4, .int (nI x)), (0, .ref (md 0)), (1, .int (nI nn)), (2, .int (nI 1)), (3, .int (nI wh))]) hx hb d_MM_rowOf_19 hl (by decide) rfl (fun ls hl => ?_)
        have ct42 : ∀ (z7 : Bool), z7 = x.testBit (a i % 32) → W p l e (gx_rm 0 0) s m ([.ref (md 0), .int (nI nn), .int (nI 1), .int (nI wh)] : List Value).toArray below meth c s.heap [] 0 0 (MQ below (vp_Si (fun r => r = nI (mt_pf k a b (fun t => k t == 1 && Nat.testBit wh (mt_pl k t)) nn))) ([.ref (md 0), .int (nI nn), .int (nI 1), .int (nI wh)] : List Value).toArray s 0 0 (fun _ => False)) (F0 m 42 ls [.int (mt_b z7)]) := by
          intro z7 hcut42
          refine lv_istore (lv' := [(7, .int (mt_b z7)), (6, .int (nI 1)), (5, .int (nI i)), (4, .int (nI x)), (0, .ref (md 0)), (1, .int (nI nn)), (2, .int (nI 1)), (3, .int (nI wh))]) hx hb d_MM_rowOf_42 hl (by decide) rfl (fun ls hl => ?_)
          have ct65 : ∀ (z8 : Bool), z8 = x.testBit (b i % 32) → W p l e (gx_rm 0 0) s m ([.ref (md 0), .int (nI nn), .int (nI 1), .int (nI wh)] : List Value).toArray below meth c s.heap [] 0 0 (MQ below (vp_Si (fun r => r = nI (mt_pf k a b (fun t => k t == 1 && Nat.testBit wh (mt_pl k t)) nn))) ([.ref (md 0), .int (nI nn), .int (nI 1), .int (nI wh)] : List Value).toArray s 0 0 (fun _ => False)) (F0 m 65 ls [.int (mt_b z8)]) := by
            intro z8 hcut65
            refine lv_istore (lv' := [(8, .int (mt_b z8)), (7, .int (mt_b z7)), (6, .int (nI 1)), (5, .int (nI i)), (4, .int (nI x)), (0, .ref (md 0)), (1, .int (nI nn)), (2, .int (nI 1)), (3, .int (nI wh))]) hx hb d_MM_rowOf_65 hl (by decide) rfl (fun ls hl => ?_)
            have hz7 := hcut42
            have hz8 := hcut65
            have hz9 := hz8
            refine lv_iload hx hb d_MM_rowOf_67 (lv_at hl 2 rfl) ?_
            refine lv_bipush (v := nI 6) hx hb d_MM_rowOf_69 (by decide) ?_
            refine lv_icmp_eq (tgt := 117) hx hb d_MM_rowOf_71 (by decide) (fun h9 => absurd h9 (by decide)) (fun _ => ?_)
            refine lv_iload hx hb d_MM_rowOf_74 (lv_at hl 2 rfl) ?_
            refine lv_iconst (v := nI 3) hx hb d_MM_rowOf_76 (by decide) ?_
            refine lv_icmp_ne (tgt := 90) hx hb d_MM_rowOf_77 (by decide) (fun _ => ?_) (fun h9 => absurd h9 (by decide))
            refine lv_iload hx hb d_MM_rowOf_90 (lv_at hl 2 rfl) ?_
            refine lv_iconst (v := nI 4) hx hb d_MM_rowOf_92 (by decide) ?_
            refine lv_icmp_ne (tgt := 106) hx hb d_MM_rowOf_93 (by decide) (fun _ => ?_) (fun h9 => absurd h9 (by decide))
            refine lv_iload hx hb d_MM_rowOf_106 (lv_at hl 2 rfl) ?_
            refine lv_iconst (v := nI 5) hx hb d_MM_rowOf_108 (by decide) ?_
            refine lv_icmp_ne (tgt := 121) hx hb d_MM_rowOf_109 (by decide) (fun _ => ?_) (fun h9 => absurd h9 (by decide))
            refine lv_iconst (v := nI 0) hx hb d_MM_rowOf_121 (by decide) ?_
            refine lv_istore (lv' := [(9, .int (nI 0)), (8, .int (mt_b z8)), (7, .int (mt_b z7)), (6, .int (nI 1)), (5, .int (nI i)), (4, .int (nI x)), (0, .ref (md 0)), (1, .int (nI nn)), (2, .int (nI 1)), (3, .int (nI wh))]) hx hb d_MM_rowOf_122 hl (by decide) rfl (fun ls hl => ?_)
            refine lv_iload hx hb d_MM_rowOf_124 (lv_at hl 0 rfl) ?_
            refine lv_if_ne (tgt := 205) hx hb d_MM_rowOf_126 (by decide) (fun h9 => absurd h9 (by decide)) (fun _ => ?_)
            refine lv_iload hx hb d_MM_rowOf_129 (lv_at hl 3 rfl) ?_
            refine lv_if_ne (tgt := 153) hx hb d_MM_rowOf_131 (by decide) (fun _ => ?_) (fun h9 => absurd h9 (by decide))
            refine lv_iload hx hb d_MM_rowOf_153 (lv_at hl 3 rfl) ?_
            refine lv_iconst (v := nI 1) hx hb d_MM_rowOf_155 (by decide) ?_
            refine lv_icmp_ne (tgt := 179) hx hb d_MM_rowOf_156 (by decide) (fun h9 => absurd h9 (by decide)) (fun _ => ?_)
            refine lv_iload_n hx hb d_MM_rowOf_159 rfl (lv_at hl 8 rfl) ?_
            refine lv_iconst (v := nI 1) hx hb d_MM_rowOf_160 (by decide) ?_
            refine lv_icmp_ne (tgt := 179) hx hb d_MM_rowOf_161 (by decide) (fun h9 => absurd h9 (by decide)) (fun _ => ?_)
            refine lv_iload_n hx hb d_MM_rowOf_164 rfl (lv_at hl 9 rfl) ?_
            refine lv_aload_n hx hb d_MM_rowOf_165 rfl (lv_at hl 6 rfl) ?_
            refine va_get (D := g.1) (own := R_MM) (ref := R_MM) (ci := 5) (v := .ref (md 11)) (C := R_MM) (T := F_MM) (N := 16) hx hb hts in_MM hown hG.1 hP 0 rfl rfl 15 (by decide) (hts _ wd_398) (fun _ h9 => h9) rfl d_MM_rowOf_166 ?_
            refine lv_iload hx hb d_MM_rowOf_169 (lv_at hl 4 rfl) ?_
            refine va_iald hx hb hG.1 hP 11 0 rfl rfl (vp_in_nI (by omega) (by decide)) d_MM_rowOf_171 ?_
            refine mt_ri (y := nI (mt_pl k i)) (by rw [nI_clamp (by omega)]; exact (hN.2.2 _ (by omega))) ?_
            refine lv_ishr hx hb d_MM_rowOf_172 ?_
            refine lv_iconst (v := nI 1) hx hb d_MM_rowOf_173 (by decide) ?_
            refine lv_iand hx hb d_MM_rowOf_174 ?_
            refine mt_ri (y := mt_b (Nat.testBit wh (mt_pl k i))) (mt_bit1 (by omega) (by omega)) ?_
            refine lv_iconst (v := nI 1) hx hb d_MM_rowOf_175 (by decide) ?_
            refine lv_icmp_eq (tgt := 205) hx hb d_MM_rowOf_176 (by decide) (mt_b1 fun hc176 => ?_) (mt_nb1 fun hc176 => ?_)
            · ---- 9F k1 176T
              refine lv_iconst (v := nI 1) hx hb d_MM_rowOf_205 (by decide) ?_
              refine lv_goto (tgt := 210) hx hb d_MM_rowOf_206 (by decide) ?_
              refine lv_istore (lv' := [(9, .int (nI 1)), (8, .int (mt_b z8)), (7, .int (mt_b z7)), (6, .int (nI 1)), (5, .int (nI i)), (4, .int (nI x)), (0, .ref (md 0)), (1, .int (nI nn)), (2, .int (nI 1)), (3, .int (nI wh))]) hx hb d_MM_rowOf_210 hl (by decide) rfl (fun ls hl => ?_)
              refine lv_iload hx hb d_MM_rowOf_212 (lv_at hl 0 rfl) ?_
              refine lv_if_eq (tgt := 227) hx hb d_MM_rowOf_214 (by decide) (fun h9 => absurd h9 (by decide)) (fun _ => ?_)
              refine lv_iload hx hb d_MM_rowOf_217 (lv_at hl 5 rfl) ?_
              refine lv_iconst (v := nI 1) hx hb d_MM_rowOf_219 (by decide) ?_
              refine lv_iload hx hb d_MM_rowOf_220 (lv_at hl 4 rfl) ?_
              refine lv_ishl hx hb d_MM_rowOf_222 ?_
              refine mt_ri (y := nI (2 ^ i)) (mt_shl (by omega)) ?_
              refine lv_ior hx hb d_MM_rowOf_223 ?_
              refine mt_ri (y := nI (x ||| (2 ^ i))) (mt_or _ _) ?_
              refine lv_goto (tgt := 229) hx hb d_MM_rowOf_224 (by decide) ?_
              refine lv_istore (lv' := [(4, .int (nI (x ||| (2 ^ i)))), (9, .int (nI 1)), (8, .int (mt_b z8)), (7, .int (mt_b z7)), (6, .int (nI 1)), (5, .int (nI i)), (0, .ref (md 0)), (1, .int (nI nn)), (2, .int (nI 1)), (3, .int (nI wh))]) hx hb d_MM_rowOf_229 hl (by decide) rfl (fun ls hl => ?_)
              refine lv_iinc (k := 5) (v := nI (i + 1)) (lv' := [(5, .int (nI (i + 1))), (4, .int (nI (x ||| (2 ^ i)))), (9, .int (nI 1)), (8, .int (mt_b z8)), (7, .int (mt_b z7)), (6, .int (nI 1)), (0, .ref (md 0)), (1, .int (nI nn)), (2, .int (nI 1)), (3, .int (nI wh))]) hx hb d_MM_rowOf_231 hl rfl (by rw [lit1]; exact nI_1 _) (by decide) rfl (fun ls hl => ?_)
              refine lv_goto (tgt := 6) hx hb d_MM_rowOf_234 (by decide) ?_
              exact ih6 _ (by omega) (i + 1) (x ||| (2 ^ i)) ls rfl (by omega) (mt_pf_t hx9 (by simp [mt_in, hkv, hc176])) (lv_sub hl [0, 1, 6, 7, 8, 9] rfl)
            · ---- 9F k1 176F
              refine lv_iload hx hb d_MM_rowOf_179 (lv_at hl 3 rfl) ?_
              refine lv_iconst (v := nI 2) hx hb d_MM_rowOf_181 (by decide) ?_
              refine lv_icmp_ne (tgt := 209) hx hb d_MM_rowOf_182 (by decide) (fun _ => ?_) (fun h9 => absurd h9 (by decide))
              refine lv_iconst (v := nI 0) hx hb d_MM_rowOf_209 (by decide) ?_
              refine lv_istore (lv' := [(9, .int (nI 0)), (8, .int (mt_b z8)), (7, .int (mt_b z7)), (6, .int (nI 1)), (5, .int (nI i)), (4, .int (nI x)), (0, .ref (md 0)), (1, .int (nI nn)), (2, .int (nI 1)), (3, .int (nI wh))]) hx hb d_MM_rowOf_210 hl (by decide) rfl (fun ls hl => ?_)
              refine lv_iload hx hb d_MM_rowOf_212 (lv_at hl 0 rfl) ?_
              refine lv_if_eq (tgt := 227) hx hb d_MM_rowOf_214 (by decide) (fun _ => ?_) (fun h9 => absurd h9 (by decide))
              refine lv_iload hx hb d_MM_rowOf_227 (lv_at hl 5 rfl) ?_
              refine lv_istore (lv' := [(4, .int (nI x)), (9, .int (nI 0)), (8, .int (mt_b z8)), (7, .int (mt_b z7)), (6, .int (nI 1)), (5, .int (nI i)), (0, .ref (md 0)), (1, .int (nI nn)), (2, .int (nI 1)), (3, .int (nI wh))]) hx hb d_MM_rowOf_229 hl (by decide) rfl (fun ls hl => ?_)
              refine lv_iinc (k := 5) (v := nI (i + 1)) (lv' := [(5, .int (nI (i + 1))), (4, .int (nI x)), (9, .int (nI 0)), (8, .int (mt_b z8)), (7, .int (mt_b z7)), (6, .int (nI 1)), (0, .ref (md 0)), (1, .int (nI nn)), (2, .int (nI 1)), (3, .int (nI wh))]) hx hb d_MM_rowOf_231 hl rfl (by rw [lit1]; exact nI_1 _) (by decide) rfl (fun ls hl => ?_)
              refine lv_goto (tgt := 6) hx hb d_MM_rowOf_234 (by decide) ?_
              exact ih6 _ (by omega) (i + 1) x ls rfl (by omega) (mt_pf_f hx9 (by simp [mt_in, hkv, hc176])) (lv_sub hl [0, 1, 6, 7, 8, 9] rfl)
          refine lv_iload hx hb d_MM_rowOf_44 (lv_at hl 3 rfl) ?_
          refine lv_aload_n hx hb d_MM_rowOf_46 rfl (lv_at hl 4 rfl) ?_
          refine va_get (D := g.1) (own := R_MM) (ref := R_MM) (ci := 5) (v := .ref (md 3)) (C := R_MM) (T := F_MM) (N := 16) hx hb hts in_MM hown hG.1 hP 0 rfl rfl 3 (by decide) (hts _ wd_386) (fun _ h9 => h9) rfl d_MM_rowOf_47 ?_
          refine lv_iload hx hb d_MM_rowOf_50 (lv_at hl 2 rfl) ?_
          refine va_iald hx hb hG.1 hP 3 0 rfl rfl (vp_in_nI (by omega) (by decide)) d_MM_rowOf_52 ?_
          refine mt_ri (y := nI (b i)) (by rw [nI_clamp (by omega)]; exact (hT _ (by omega)).2.2) ?_
          refine lv_ishr hx hb d_MM_rowOf_53 ?_
          refine lv_iconst (v := nI 1) hx hb d_MM_rowOf_54 (by decide) ?_
          refine lv_iand hx hb d_MM_rowOf_55 ?_
          refine mt_ri (y := mt_b (Nat.testBit x ((b i) % 32))) (mt_bit32 (by omega) (by omega)) ?_
          refine lv_iconst (v := nI 1) hx hb d_MM_rowOf_56 (by decide) ?_
          refine lv_icmp_ne (tgt := 64) hx hb d_MM_rowOf_57 (by decide) (mt_nb1 fun hc57 => ?_) (mt_b1 fun hc57 => ?_)
          · ---- 9F k1 57T
            refine lv_iconst (v := nI 0) hx hb d_MM_rowOf_64 (by decide) ?_
            exact ct65 false (hc57.symm)
          · ---- 9F k1 57F
            refine lv_iconst (v := nI 1) hx hb d_MM_rowOf_60 (by decide) ?_
            refine lv_goto (tgt := 65) hx hb d_MM_rowOf_61 (by decide) ?_
            exact ct65 true (hc57.symm)
        refine lv_iload hx hb d_MM_rowOf_21 (lv_at hl 2 rfl) ?_
        refine lv_aload_n hx hb d_MM_rowOf_23 rfl (lv_at hl 3 rfl) ?_
        refine va_get (D := g.1) (own := R_MM) (ref := R_MM) (ci := 5) (v := .ref (md 2)) (C := R_MM) (T := F_MM) (N := 16) hx hb hts in_MM hown hG.1 hP 0 rfl rfl 2 (by decide) (hts _ wd_385) (fun _ h9 => h9) rfl d_MM_rowOf_24 ?_
        refine lv_iload hx hb d_MM_rowOf_27 (lv_at hl 1 rfl) ?_
        refine va_iald hx hb hG.1 hP 2 0 rfl rfl (vp_in_nI (by omega) (by decide)) d_MM_rowOf_29 ?_
        refine mt_ri (y := nI (a i)) (by rw [nI_clamp (by omega)]; exact (hT _ (by omega)).2.1) ?_
        refine lv_ishr hx hb d_MM_rowOf_30 ?_
        refine lv_iconst (v := nI 1) hx hb d_MM_rowOf_31 (by decide) ?_
        refine lv_iand hx hb d_MM_rowOf_32 ?_
        refine mt_ri (y := mt_b (Nat.testBit x ((a i) % 32))) (mt_bit32 (by omega) (by omega)) ?_
        refine lv_iconst (v := nI 1) hx hb d_MM_rowOf_33 (by decide) ?_
        refine lv_icmp_ne (tgt := 41) hx hb d_MM_rowOf_34 (by decide) (mt_nb1 fun hc34 => ?_) (mt_b1 fun hc34 => ?_)
        · ---- 9F k1 34T
          refine lv_iconst (v := nI 0) hx hb d_MM_rowOf_41 (by decide) ?_
          exact ct42 false (hc34.symm)
        · ---- 9F k1 34F
          refine lv_iconst (v := nI 1) hx hb d_MM_rowOf_37 (by decide) ?_
          refine lv_goto (tgt := 42) hx hb d_MM_rowOf_38 (by decide) ?_
          exact ct42 true (hc34.symm)
      · ---- 9F k2
        refine mt_ri (y := nI 2) (by rw [hkv]) ?_
        refine lv_istore (lv' := [(6, .int (nI 2)), (5, .int (nI i)), (4, .int (nI x)), (0, .ref (md 0)), (1, .int (nI nn)), (2, .int (nI 1)), (3, .int (nI wh))]) hx hb d_MM_rowOf_19 hl (by decide) rfl (fun ls hl => ?_)
        have ct42 : ∀ (z7 : Bool), z7 = x.testBit (a i % 32) → W p l e (gx_rm 0 0) s m ([.ref (md 0), .int (nI nn), .int (nI 1), .int (nI wh)] : List Value).toArray below meth c s.heap [] 0 0 (MQ below (vp_Si (fun r => r = nI (mt_pf k a b (fun t => k t == 1 && Nat.testBit wh (mt_pl k t)) nn))) ([.ref (md 0), .int (nI nn), .int (nI 1), .int (nI wh)] : List Value).toArray s 0 0 (fun _ => False)) (F0 m 42 ls [.int (mt_b z7)]) := by
          intro z7 hcut42
          refine lv_istore (lv' := [(7, .int (mt_b z7)), (6, .int (nI 2)), (5, .int (nI i)), (4, .int (nI x)), (0, .ref (md 0)), (1, .int (nI nn)), (2, .int (nI 1)), (3, .int (nI wh))]) hx hb d_MM_rowOf_42 hl (by decide) rfl (fun ls hl => ?_)
          have ct65 : ∀ (z8 : Bool), z8 = x.testBit (b i % 32) → W p l e (gx_rm 0 0) s m ([.ref (md 0), .int (nI nn), .int (nI 1), .int (nI wh)] : List Value).toArray below meth c s.heap [] 0 0 (MQ below (vp_Si (fun r => r = nI (mt_pf k a b (fun t => k t == 1 && Nat.testBit wh (mt_pl k t)) nn))) ([.ref (md 0), .int (nI nn), .int (nI 1), .int (nI wh)] : List Value).toArray s 0 0 (fun _ => False)) (F0 m 65 ls [.int (mt_b z8)]) := by
            intro z8 hcut65
            refine lv_istore (lv' := [(8, .int (mt_b z8)), (7, .int (mt_b z7)), (6, .int (nI 2)), (5, .int (nI i)), (4, .int (nI x)), (0, .ref (md 0)), (1, .int (nI nn)), (2, .int (nI 1)), (3, .int (nI wh))]) hx hb d_MM_rowOf_65 hl (by decide) rfl (fun ls hl => ?_)
            have hz7 := hcut42
            have hz8 := hcut65
            have hz9 := hz8
            refine lv_iload hx hb d_MM_rowOf_67 (lv_at hl 2 rfl) ?_
            refine lv_bipush (v := nI 6) hx hb d_MM_rowOf_69 (by decide) ?_
            refine lv_icmp_eq (tgt := 117) hx hb d_MM_rowOf_71 (by decide) (fun h9 => absurd h9 (by decide)) (fun _ => ?_)
            refine lv_iload hx hb d_MM_rowOf_74 (lv_at hl 2 rfl) ?_
            refine lv_iconst (v := nI 3) hx hb d_MM_rowOf_76 (by decide) ?_
            refine lv_icmp_ne (tgt := 90) hx hb d_MM_rowOf_77 (by decide) (fun _ => ?_) (fun h9 => absurd h9 (by decide))
            refine lv_iload hx hb d_MM_rowOf_90 (lv_at hl 2 rfl) ?_
            refine lv_iconst (v := nI 4) hx hb d_MM_rowOf_92 (by decide) ?_
            refine lv_icmp_ne (tgt := 106) hx hb d_MM_rowOf_93 (by decide) (fun _ => ?_) (fun h9 => absurd h9 (by decide))
            refine lv_iload hx hb d_MM_rowOf_106 (lv_at hl 2 rfl) ?_
            refine lv_iconst (v := nI 5) hx hb d_MM_rowOf_108 (by decide) ?_
            refine lv_icmp_ne (tgt := 121) hx hb d_MM_rowOf_109 (by decide) (fun _ => ?_) (fun h9 => absurd h9 (by decide))
            refine lv_iconst (v := nI 0) hx hb d_MM_rowOf_121 (by decide) ?_
            refine lv_istore (lv' := [(9, .int (nI 0)), (8, .int (mt_b z8)), (7, .int (mt_b z7)), (6, .int (nI 2)), (5, .int (nI i)), (4, .int (nI x)), (0, .ref (md 0)), (1, .int (nI nn)), (2, .int (nI 1)), (3, .int (nI wh))]) hx hb d_MM_rowOf_122 hl (by decide) rfl (fun ls hl => ?_)
            refine lv_iload hx hb d_MM_rowOf_124 (lv_at hl 0 rfl) ?_
            refine lv_if_ne (tgt := 205) hx hb d_MM_rowOf_126 (by decide) (fun h9 => absurd h9 (by decide)) (fun _ => ?_)
            refine lv_iload hx hb d_MM_rowOf_129 (lv_at hl 3 rfl) ?_
            refine lv_if_ne (tgt := 153) hx hb d_MM_rowOf_131 (by decide) (fun _ => ?_) (fun h9 => absurd h9 (by decide))
            refine lv_iload hx hb d_MM_rowOf_153 (lv_at hl 3 rfl) ?_
            refine lv_iconst (v := nI 1) hx hb d_MM_rowOf_155 (by decide) ?_
            refine lv_icmp_ne (tgt := 179) hx hb d_MM_rowOf_156 (by decide) (fun _ => ?_) (fun h9 => absurd h9 (by decide))
            refine lv_iload hx hb d_MM_rowOf_179 (lv_at hl 3 rfl) ?_
            refine lv_iconst (v := nI 2) hx hb d_MM_rowOf_181 (by decide) ?_
            refine lv_icmp_ne (tgt := 209) hx hb d_MM_rowOf_182 (by decide) (fun h9 => absurd h9 (by decide)) (fun _ => ?_)
            refine lv_iload_n hx hb d_MM_rowOf_185 rfl (lv_at hl 8 rfl) ?_
            refine lv_iconst (v := nI 2) hx hb d_MM_rowOf_186 (by decide) ?_
            refine lv_icmp_ne (tgt := 209) hx hb d_MM_rowOf_187 (by decide) (fun _ => ?_) (fun h9 => absurd h9 (by decide))
            refine lv_iconst (v := nI 0) hx hb d_MM_rowOf_209 (by decide) ?_
            refine lv_istore (lv' := [(9, .int (nI 0)), (8, .int (mt_b z8)), (7, .int (mt_b z7)), (6, .int (nI 2)), (5, .int (nI i)), (4, .int (nI x)), (0, .ref (md 0)), (1, .int (nI nn)), (2, .int (nI 1)), (3, .int (nI wh))]) hx hb d_MM_rowOf_210 hl (by decide) rfl (fun ls hl => ?_)
            refine lv_iload hx hb d_MM_rowOf_212 (lv_at hl 0 rfl) ?_
            refine lv_if_eq (tgt := 227) hx hb d_MM_rowOf_214 (by decide) (fun _ => ?_) (fun h9 => absurd h9 (by decide))
            refine lv_iload hx hb d_MM_rowOf_227 (lv_at hl 5 rfl) ?_
            refine lv_istore (lv' := [(4, .int (nI x)), (9, .int (nI 0)), (8, .int (mt_b z8)), (7, .int (mt_b z7)), (6, .int (nI 2)), (5, .int (nI i)), (0, .ref (md 0)), (1, .int (nI nn)), (2, .int (nI 1)), (3, .int (nI wh))]) hx hb d_MM_rowOf_229 hl (by decide) rfl (fun ls hl => ?_)
            refine lv_iinc (k := 5) (v := nI (i + 1)) (lv' := [(5, .int (nI (i + 1))), (4, .int (nI x)), (9, .int (nI 0)), (8, .int (mt_b z8)), (7, .int (mt_b z7)), (6, .int (nI 2)), (0, .ref (md 0)), (1, .int (nI nn)), (2, .int (nI 1)), (3, .int (nI wh))]) hx hb d_MM_rowOf_231 hl rfl (by rw [lit1]; exact nI_1 _) (by decide) rfl (fun ls hl => ?_)
            refine lv_goto (tgt := 6) hx hb d_MM_rowOf_234 (by decide) ?_
            exact ih6 _ (by omega) (i + 1) x ls rfl (by omega) (mt_pf_f hx9 (by simp [mt_in, hkv])) (lv_sub hl [0, 1, 6, 7, 8, 9] rfl)
          refine lv_iload hx hb d_MM_rowOf_44 (lv_at hl 3 rfl) ?_
          refine lv_aload_n hx hb d_MM_rowOf_46 rfl (lv_at hl 4 rfl) ?_
          refine va_get (D := g.1) (own := R_MM) (ref := R_MM) (ci := 5) (v := .ref (md 3)) (C := R_MM) (T := F_MM) (N := 16) hx hb hts in_MM hown hG.1 hP 0 rfl rfl 3 (by decide) (hts _ wd_386) (fun _ h9 => h9) rfl d_MM_rowOf_47 ?_
          refine lv_iload hx hb d_MM_rowOf_50 (lv_at hl 2 rfl) ?_
          refine va_iald hx hb hG.1 hP 3 0 rfl rfl (vp_in_nI (by omega) (by decide)) d_MM_rowOf_52 ?_
          refine mt_ri (y := nI (b i)) (by rw [nI_clamp (by omega)]; exact (hT _ (by omega)).2.2) ?_
          refine lv_ishr hx hb d_MM_rowOf_53 ?_
          refine lv_iconst (v := nI 1) hx hb d_MM_rowOf_54 (by decide) ?_
          refine lv_iand hx hb d_MM_rowOf_55 ?_
          refine mt_ri (y := mt_b (Nat.testBit x ((b i) % 32))) (mt_bit32 (by omega) (by omega)) ?_
          refine lv_iconst (v := nI 1) hx hb d_MM_rowOf_56 (by decide) ?_
          refine lv_icmp_ne (tgt := 64) hx hb d_MM_rowOf_57 (by decide) (mt_nb1 fun hc57 => ?_) (mt_b1 fun hc57 => ?_)
          · ---- 9F k2 57T
            refine lv_iconst (v := nI 0) hx hb d_MM_rowOf_64 (by decide) ?_
            exact ct65 false (hc57.symm)
          · ---- 9F k2 57F
            refine lv_iconst (v := nI 1) hx hb d_MM_rowOf_60 (by decide) ?_
            refine lv_goto (tgt := 65) hx hb d_MM_rowOf_61 (by decide) ?_
            exact ct65 true (hc57.symm)
        refine lv_iload hx hb d_MM_rowOf_21 (lv_at hl 2 rfl) ?_
        refine lv_aload_n hx hb d_MM_rowOf_23 rfl (lv_at hl 3 rfl) ?_
        refine va_get (D := g.1) (own := R_MM) (ref := R_MM) (ci := 5) (v := .ref (md 2)) (C := R_MM) (T := F_MM) (N := 16) hx hb hts in_MM hown hG.1 hP 0 rfl rfl 2 (by decide) (hts _ wd_385) (fun _ h9 => h9) rfl d_MM_rowOf_24 ?_
        refine lv_iload hx hb d_MM_rowOf_27 (lv_at hl 1 rfl) ?_
        refine va_iald hx hb hG.1 hP 2 0 rfl rfl (vp_in_nI (by omega) (by decide)) d_MM_rowOf_29 ?_
        refine mt_ri (y := nI (a i)) (by rw [nI_clamp (by omega)]; exact (hT _ (by omega)).2.1) ?_
        refine lv_ishr hx hb d_MM_rowOf_30 ?_
        refine lv_iconst (v := nI 1) hx hb d_MM_rowOf_31 (by decide) ?_
        refine lv_iand hx hb d_MM_rowOf_32 ?_
        refine mt_ri (y := mt_b (Nat.testBit x ((a i) % 32))) (mt_bit32 (by omega) (by omega)) ?_
        refine lv_iconst (v := nI 1) hx hb d_MM_rowOf_33 (by decide) ?_
        refine lv_icmp_ne (tgt := 41) hx hb d_MM_rowOf_34 (by decide) (mt_nb1 fun hc34 => ?_) (mt_b1 fun hc34 => ?_)
        · ---- 9F k2 34T
          refine lv_iconst (v := nI 0) hx hb d_MM_rowOf_41 (by decide) ?_
          exact ct42 false (hc34.symm)
        · ---- 9F k2 34F
          refine lv_iconst (v := nI 1) hx hb d_MM_rowOf_37 (by decide) ?_
          refine lv_goto (tgt := 42) hx hb d_MM_rowOf_38 (by decide) ?_
          exact ct42 true (hc34.symm)
      · ---- 9F k3
        refine mt_ri (y := nI 3) (by rw [hkv]) ?_
        refine lv_istore (lv' := [(6, .int (nI 3)), (5, .int (nI i)), (4, .int (nI x)), (0, .ref (md 0)), (1, .int (nI nn)), (2, .int (nI 1)), (3, .int (nI wh))]) hx hb d_MM_rowOf_19 hl (by decide) rfl (fun ls hl => ?_)
        have ct42 : ∀ (z7 : Bool), z7 = x.testBit (a i % 32) → W p l e (gx_rm 0 0) s m ([.ref (md 0), .int (nI nn), .int (nI 1), .int (nI wh)] : List Value).toArray below meth c s.heap [] 0 0 (MQ below (vp_Si (fun r => r = nI (mt_pf k a b (fun t => k t == 1 && Nat.testBit wh (mt_pl k t)) nn))) ([.ref (md 0), .int (nI nn), .int (nI 1), .int (nI wh)] : List Value).toArray s 0 0 (fun _ => False)) (F0 m 42 ls [.int (mt_b z7)]) := by
          intro z7 hcut42
          refine lv_istore (lv' := [(7, .int (mt_b z7)), (6, .int (nI 3)), (5, .int (nI i)), (4, .int (nI x)), (0, .ref (md 0)), (1, .int (nI nn)), (2, .int (nI 1)), (3, .int (nI wh))]) hx hb d_MM_rowOf_42 hl (by decide) rfl (fun ls hl => ?_)
          have ct65 : ∀ (z8 : Bool), z8 = x.testBit (b i % 32) → W p l e (gx_rm 0 0) s m ([.ref (md 0), .int (nI nn), .int (nI 1), .int (nI wh)] : List Value).toArray below meth c s.heap [] 0 0 (MQ below (vp_Si (fun r => r = nI (mt_pf k a b (fun t => k t == 1 && Nat.testBit wh (mt_pl k t)) nn))) ([.ref (md 0), .int (nI nn), .int (nI 1), .int (nI wh)] : List Value).toArray s 0 0 (fun _ => False)) (F0 m 65 ls [.int (mt_b z8)]) := by
            intro z8 hcut65
            refine lv_istore (lv' := [(8, .int (mt_b z8)), (7, .int (mt_b z7)), (6, .int (nI 3)), (5, .int (nI i)), (4, .int (nI x)), (0, .ref (md 0)), (1, .int (nI nn)), (2, .int (nI 1)), (3, .int (nI wh))]) hx hb d_MM_rowOf_65 hl (by decide) rfl (fun ls hl => ?_)
            have hz7 := hcut42
            have hz8 := hcut65
            have hz9 := hz8
            refine lv_iload hx hb d_MM_rowOf_67 (lv_at hl 2 rfl) ?_
            refine lv_bipush (v := nI 6) hx hb d_MM_rowOf_69 (by decide) ?_
            refine lv_icmp_eq (tgt := 117) hx hb d_MM_rowOf_71 (by decide) (fun h9 => absurd h9 (by decide)) (fun _ => ?_)
            refine lv_iload hx hb d_MM_rowOf_74 (lv_at hl 2 rfl) ?_
            refine lv_iconst (v := nI 3) hx hb d_MM_rowOf_76 (by decide) ?_
            refine lv_icmp_ne (tgt := 90) hx hb d_MM_rowOf_77 (by decide) (fun h9 => absurd h9 (by decide)) (fun _ => ?_)
            refine lv_iload hx hb d_MM_rowOf_80 (lv_at hl 1 rfl) ?_
            refine lv_if_ne (tgt := 117) hx hb d_MM_rowOf_82 (by decide) (mt_nz fun hc82 => ?_) (mt_z fun hc82 => ?_)
            · ---- 9F k3 82T
              refine lv_iconst (v := nI 1) hx hb d_MM_rowOf_117 (by decide) ?_
              refine lv_goto (tgt := 122) hx hb d_MM_rowOf_118 (by decide) ?_
              refine lv_istore (lv' := [(9, .int (nI 1)), (8, .int (mt_b z8)), (7, .int (mt_b z7)), (6, .int (nI 3)), (5, .int (nI i)), (4, .int (nI x)), (0, .ref (md 0)), (1, .int (nI nn)), (2, .int (nI 1)), (3, .int (nI wh))]) hx hb d_MM_rowOf_122 hl (by decide) rfl (fun ls hl => ?_)
              refine lv_iload hx hb d_MM_rowOf_124 (lv_at hl 0 rfl) ?_
              refine lv_if_ne (tgt := 205) hx hb d_MM_rowOf_126 (by decide) (fun _ => ?_) (fun h9 => absurd h9 (by decide))
              refine lv_iconst (v := nI 1) hx hb d_MM_rowOf_205 (by decide) ?_
              refine lv_goto (tgt := 210) hx hb d_MM_rowOf_206 (by decide) ?_
              refine lv_istore (lv' := [(9, .int (nI 1)), (8, .int (mt_b z8)), (7, .int (mt_b z7)), (6, .int (nI 3)), (5, .int (nI i)), (4, .int (nI x)), (0, .ref (md 0)), (1, .int (nI nn)), (2, .int (nI 1)), (3, .int (nI wh))]) hx hb d_MM_rowOf_210 hl (by decide) rfl (fun ls hl => ?_)
              refine lv_iload hx hb d_MM_rowOf_212 (lv_at hl 0 rfl) ?_
              refine lv_if_eq (tgt := 227) hx hb d_MM_rowOf_214 (by decide) (fun h9 => absurd h9 (by decide)) (fun _ => ?_)
              refine lv_iload hx hb d_MM_rowOf_217 (lv_at hl 5 rfl) ?_
              refine lv_iconst (v := nI 1) hx hb d_MM_rowOf_219 (by decide) ?_
              refine lv_iload hx hb d_MM_rowOf_220 (lv_at hl 4 rfl) ?_
              refine lv_ishl hx hb d_MM_rowOf_222 ?_
              refine mt_ri (y := nI (2 ^ i)) (mt_shl (by omega)) ?_
              refine lv_ior hx hb d_MM_rowOf_223 ?_
              refine mt_ri (y := nI (x ||| (2 ^ i))) (mt_or _ _) ?_
              refine lv_goto (tgt := 229) hx hb d_MM_rowOf_224 (by decide) ?_
              refine lv_istore (lv' := [(4, .int (nI (x ||| (2 ^ i)))), (9, .int (nI 1)), (8, .int (mt_b z8)), (7, .int (mt_b z7)), (6, .int (nI 3)), (5, .int (nI i)), (0, .ref (md 0)), (1, .int (nI nn)), (2, .int (nI 1)), (3, .int (nI wh))]) hx hb d_MM_rowOf_229 hl (by decide) rfl (fun ls hl => ?_)
              refine lv_iinc (k := 5) (v := nI (i + 1)) (lv' := [(5, .int (nI (i + 1))), (4, .int (nI (x ||| (2 ^ i)))), (9, .int (nI 1)), (8, .int (mt_b z8)), (7, .int (mt_b z7)), (6, .int (nI 3)), (0, .ref (md 0)), (1, .int (nI nn)), (2, .int (nI 1)), (3, .int (nI wh))]) hx hb d_MM_rowOf_231 hl rfl (by rw [lit1]; exact nI_1 _) (by decide) rfl (fun ls hl => ?_)
              refine lv_goto (tgt := 6) hx hb d_MM_rowOf_234 (by decide) ?_
              exact ih6 _ (by omega) (i + 1) (x ||| (2 ^ i)) ls rfl (by omega) (mt_pf_t hx9 (by rw [Nat.mod_eq_of_lt (by have := (hw i (by omega)).2.1 (by omega) (by omega); omega)] at hz7 hz8; simp [mt_in, hkv, ← hz7, ← hz8, hc82])) (lv_sub hl [0, 1, 6, 7, 8, 9] rfl)
            · ---- 9F k3 82F
              refine lv_iload hx hb d_MM_rowOf_85 (lv_at hl 0 rfl) ?_
              refine lv_if_ne (tgt := 117) hx hb d_MM_rowOf_87 (by decide) (mt_nz fun hc87 => ?_) (mt_z fun hc87 => ?_)
              · ---- 9F k3 82F 87T
                refine lv_iconst (v := nI 1) hx hb d_MM_rowOf_117 (by decide) ?_
                refine lv_goto (tgt := 122) hx hb d_MM_rowOf_118 (by decide) ?_
                refine lv_istore (lv' := [(9, .int (nI 1)), (8, .int (mt_b z8)), (7, .int (mt_b z7)), (6, .int (nI 3)), (5, .int (nI i)), (4, .int (nI x)), (0, .ref (md 0)), (1, .int (nI nn)), (2, .int (nI 1)), (3, .int (nI wh))]) hx hb d_MM_rowOf_122 hl (by decide) rfl (fun ls hl => ?_)
                refine lv_iload hx hb d_MM_rowOf_124 (lv_at hl 0 rfl) ?_
                refine lv_if_ne (tgt := 205) hx hb d_MM_rowOf_126 (by decide) (fun _ => ?_) (fun h9 => absurd h9 (by decide))
                refine lv_iconst (v := nI 1) hx hb d_MM_rowOf_205 (by decide) ?_
                refine lv_goto (tgt := 210) hx hb d_MM_rowOf_206 (by decide) ?_
                refine lv_istore (lv' := [(9, .int (nI 1)), (8, .int (mt_b z8)), (7, .int (mt_b z7)), (6, .int (nI 3)), (5, .int (nI i)), (4, .int (nI x)), (0, .ref (md 0)), (1, .int (nI nn)), (2, .int (nI 1)), (3, .int (nI wh))]) hx hb d_MM_rowOf_210 hl (by decide) rfl (fun ls hl => ?_)
                refine lv_iload hx hb d_MM_rowOf_212 (lv_at hl 0 rfl) ?_
                refine lv_if_eq (tgt := 227) hx hb d_MM_rowOf_214 (by decide) (fun h9 => absurd h9 (by decide)) (fun _ => ?_)
                refine lv_iload hx hb d_MM_rowOf_217 (lv_at hl 5 rfl) ?_
                refine lv_iconst (v := nI 1) hx hb d_MM_rowOf_219 (by decide) ?_
                refine lv_iload hx hb d_MM_rowOf_220 (lv_at hl 4 rfl) ?_
                refine lv_ishl hx hb d_MM_rowOf_222 ?_
                refine mt_ri (y := nI (2 ^ i)) (mt_shl (by omega)) ?_
                refine lv_ior hx hb d_MM_rowOf_223 ?_
                refine mt_ri (y := nI (x ||| (2 ^ i))) (mt_or _ _) ?_
                refine lv_goto (tgt := 229) hx hb d_MM_rowOf_224 (by decide) ?_
                refine lv_istore (lv' := [(4, .int (nI (x ||| (2 ^ i)))), (9, .int (nI 1)), (8, .int (mt_b z8)), (7, .int (mt_b z7)), (6, .int (nI 3)), (5, .int (nI i)), (0, .ref (md 0)), (1, .int (nI nn)), (2, .int (nI 1)), (3, .int (nI wh))]) hx hb d_MM_rowOf_229 hl (by decide) rfl (fun ls hl => ?_)
                refine lv_iinc (k := 5) (v := nI (i + 1)) (lv' := [(5, .int (nI (i + 1))), (4, .int (nI (x ||| (2 ^ i)))), (9, .int (nI 1)), (8, .int (mt_b z8)), (7, .int (mt_b z7)), (6, .int (nI 3)), (0, .ref (md 0)), (1, .int (nI nn)), (2, .int (nI 1)), (3, .int (nI wh))]) hx hb d_MM_rowOf_231 hl rfl (by rw [lit1]; exact nI_1 _) (by decide) rfl (fun ls hl => ?_)
                refine lv_goto (tgt := 6) hx hb d_MM_rowOf_234 (by decide) ?_
                exact ih6 _ (by omega) (i + 1) (x ||| (2 ^ i)) ls rfl (by omega) (mt_pf_t hx9 (by rw [Nat.mod_eq_of_lt (by have := (hw i (by omega)).2.1 (by omega) (by omega); omega)] at hz7 hz8; simp [mt_in, hkv, ← hz7, ← hz8, hc82, hc87])) (lv_sub hl [0, 1, 6, 7, 8, 9] rfl)
              · ---- 9F k3 82F 87F
                refine lv_iload hx hb d_MM_rowOf_90 (lv_at hl 2 rfl) ?_
                refine lv_iconst (v := nI 4) hx hb d_MM_rowOf_92 (by decide) ?_
                refine lv_icmp_ne (tgt := 106) hx hb d_MM_rowOf_93 (by decide) (fun _ => ?_) (fun h9 => absurd h9 (by decide))
                refine lv_iload hx hb d_MM_rowOf_106 (lv_at hl 2 rfl) ?_
                refine lv_iconst (v := nI 5) hx hb d_MM_rowOf_108 (by decide) ?_
                refine lv_icmp_ne (tgt := 121) hx hb d_MM_rowOf_109 (by decide) (fun _ => ?_) (fun h9 => absurd h9 (by decide))
                refine lv_iconst (v := nI 0) hx hb d_MM_rowOf_121 (by decide) ?_
                refine lv_istore (lv' := [(9, .int (nI 0)), (8, .int (mt_b z8)), (7, .int (mt_b z7)), (6, .int (nI 3)), (5, .int (nI i)), (4, .int (nI x)), (0, .ref (md 0)), (1, .int (nI nn)), (2, .int (nI 1)), (3, .int (nI wh))]) hx hb d_MM_rowOf_122 hl (by decide) rfl (fun ls hl => ?_)
                refine lv_iload hx hb d_MM_rowOf_124 (lv_at hl 0 rfl) ?_
                refine lv_if_ne (tgt := 205) hx hb d_MM_rowOf_126 (by decide) (fun h9 => absurd h9 (by decide)) (fun _ => ?_)
                refine lv_iload hx hb d_MM_rowOf_129 (lv_at hl 3 rfl) ?_
                refine lv_if_ne (tgt := 153) hx hb d_MM_rowOf_131 (by decide) (fun _ => ?_) (fun h9 => absurd h9 (by decide))
                refine lv_iload hx hb d_MM_rowOf_153 (lv_at hl 3 rfl) ?_
                refine lv_iconst (v := nI 1) hx hb d_MM_rowOf_155 (by decide) ?_
                refine lv_icmp_ne (tgt := 179) hx hb d_MM_rowOf_156 (by decide) (fun _ => ?_) (fun h9 => absurd h9 (by decide))
                refine lv_iload hx hb d_MM_rowOf_179 (lv_at hl 3 rfl) ?_
                refine lv_iconst (v := nI 2) hx hb d_MM_rowOf_181 (by decide) ?_
                refine lv_icmp_ne (tgt := 209) hx hb d_MM_rowOf_182 (by decide) (fun _ => ?_) (fun h9 => absurd h9 (by decide))
                refine lv_iconst (v := nI 0) hx hb d_MM_rowOf_209 (by decide) ?_
                refine lv_istore (lv' := [(9, .int (nI 0)), (8, .int (mt_b z8)), (7, .int (mt_b z7)), (6, .int (nI 3)), (5, .int (nI i)), (4, .int (nI x)), (0, .ref (md 0)), (1, .int (nI nn)), (2, .int (nI 1)), (3, .int (nI wh))]) hx hb d_MM_rowOf_210 hl (by decide) rfl (fun ls hl => ?_)
                refine lv_iload hx hb d_MM_rowOf_212 (lv_at hl 0 rfl) ?_
                refine lv_if_eq (tgt := 227) hx hb d_MM_rowOf_214 (by decide) (fun _ => ?_) (fun h9 => absurd h9 (by decide))
                refine lv_iload hx hb d_MM_rowOf_227 (lv_at hl 5 rfl) ?_
                refine lv_istore (lv' := [(4, .int (nI x)), (9, .int (nI 0)), (8, .int (mt_b z8)), (7, .int (mt_b z7)), (6, .int (nI 3)), (5, .int (nI i)), (0, .ref (md 0)), (1, .int (nI nn)), (2, .int (nI 1)), (3, .int (nI wh))]) hx hb d_MM_rowOf_229 hl (by decide) rfl (fun ls hl => ?_)
                refine lv_iinc (k := 5) (v := nI (i + 1)) (lv' := [(5, .int (nI (i + 1))), (4, .int (nI x)), (9, .int (nI 0)), (8, .int (mt_b z8)), (7, .int (mt_b z7)), (6, .int (nI 3)), (0, .ref (md 0)), (1, .int (nI nn)), (2, .int (nI 1)), (3, .int (nI wh))]) hx hb d_MM_rowOf_231 hl rfl (by rw [lit1]; exact nI_1 _) (by decide) rfl (fun ls hl => ?_)
                refine lv_goto (tgt := 6) hx hb d_MM_rowOf_234 (by decide) ?_
                exact ih6 _ (by omega) (i + 1) x ls rfl (by omega) (mt_pf_f hx9 (by rw [Nat.mod_eq_of_lt (by have := (hw i (by omega)).2.1 (by omega) (by omega); omega)] at hz7 hz8; simp [mt_in, hkv, ← hz7, ← hz8, hc82, hc87])) (lv_sub hl [0, 1, 6, 7, 8, 9] rfl)
          refine lv_iload hx hb d_MM_rowOf_44 (lv_at hl 3 rfl) ?_
          refine lv_aload_n hx hb d_MM_rowOf_46 rfl (lv_at hl 4 rfl) ?_
          refine va_get (D := g.1) (own := R_MM) (ref := R_MM) (ci := 5) (v := .ref (md 3)) (C := R_MM) (T := F_MM) (N := 16) hx hb hts in_MM hown hG.1 hP 0 rfl rfl 3 (by decide) (hts _ wd_386) (fun _ h9 => h9) rfl d_MM_rowOf_47 ?_
          refine lv_iload hx hb d_MM_rowOf_50 (lv_at hl 2 rfl) ?_
          refine va_iald hx hb hG.1 hP 3 0 rfl rfl (vp_in_nI (by omega) (by decide)) d_MM_rowOf_52 ?_
          refine mt_ri (y := nI (b i)) (by rw [nI_clamp (by omega)]; exact (hT _ (by omega)).2.2) ?_
          refine lv_ishr hx hb d_MM_rowOf_53 ?_
          refine lv_iconst (v := nI 1) hx hb d_MM_rowOf_54 (by decide) ?_
          refine lv_iand hx hb d_MM_rowOf_55 ?_
          refine mt_ri (y := mt_b (Nat.testBit x ((b i) % 32))) (mt_bit32 (by omega) (by omega)) ?_
          refine lv_iconst (v := nI 1) hx hb d_MM_rowOf_56 (by decide) ?_
          refine lv_icmp_ne (tgt := 64) hx hb d_MM_rowOf_57 (by decide) (mt_nb1 fun hc57 => ?_) (mt_b1 fun hc57 => ?_)
          · ---- 9F k3 57T
            refine lv_iconst (v := nI 0) hx hb d_MM_rowOf_64 (by decide) ?_
            exact ct65 false (hc57.symm)
          · ---- 9F k3 57F
            refine lv_iconst (v := nI 1) hx hb d_MM_rowOf_60 (by decide) ?_
            refine lv_goto (tgt := 65) hx hb d_MM_rowOf_61 (by decide) ?_
            exact ct65 true (hc57.symm)
        refine lv_iload hx hb d_MM_rowOf_21 (lv_at hl 2 rfl) ?_
        refine lv_aload_n hx hb d_MM_rowOf_23 rfl (lv_at hl 3 rfl) ?_
        refine va_get (D := g.1) (own := R_MM) (ref := R_MM) (ci := 5) (v := .ref (md 2)) (C := R_MM) (T := F_MM) (N := 16) hx hb hts in_MM hown hG.1 hP 0 rfl rfl 2 (by decide) (hts _ wd_385) (fun _ h9 => h9) rfl d_MM_rowOf_24 ?_
        refine lv_iload hx hb d_MM_rowOf_27 (lv_at hl 1 rfl) ?_
        refine va_iald hx hb hG.1 hP 2 0 rfl rfl (vp_in_nI (by omega) (by decide)) d_MM_rowOf_29 ?_
        refine mt_ri (y := nI (a i)) (by rw [nI_clamp (by omega)]; exact (hT _ (by omega)).2.1) ?_
        refine lv_ishr hx hb d_MM_rowOf_30 ?_
        refine lv_iconst (v := nI 1) hx hb d_MM_rowOf_31 (by decide) ?_
        refine lv_iand hx hb d_MM_rowOf_32 ?_
        refine mt_ri (y := mt_b (Nat.testBit x ((a i) % 32))) (mt_bit32 (by omega) (by omega)) ?_
        refine lv_iconst (v := nI 1) hx hb d_MM_rowOf_33 (by decide) ?_
        refine lv_icmp_ne (tgt := 41) hx hb d_MM_rowOf_34 (by decide) (mt_nb1 fun hc34 => ?_) (mt_b1 fun hc34 => ?_)
        · ---- 9F k3 34T
          refine lv_iconst (v := nI 0) hx hb d_MM_rowOf_41 (by decide) ?_
          exact ct42 false (hc34.symm)
        · ---- 9F k3 34F
          refine lv_iconst (v := nI 1) hx hb d_MM_rowOf_37 (by decide) ?_
          refine lv_goto (tgt := 42) hx hb d_MM_rowOf_38 (by decide) ?_
          exact ct42 true (hc34.symm)
      · ---- 9F k4
        refine mt_ri (y := nI 4) (by rw [hkv]) ?_
        refine lv_istore (lv' := [(6, .int (nI 4)), (5, .int (nI i)), (4, .int (nI x)), (0, .ref (md 0)), (1, .int (nI nn)), (2, .int (nI 1)), (3, .int (nI wh))]) hx hb d_MM_rowOf_19 hl (by decide) rfl (fun ls hl => ?_)
        have ct42 : ∀ (z7 : Bool), z7 = x.testBit (a i % 32) → W p l e (gx_rm 0 0) s m ([.ref (md 0), .int (nI nn), .int (nI 1), .int (nI wh)] : List Value).toArray below meth c s.heap [] 0 0 (MQ below (vp_Si (fun r => r = nI (mt_pf k a b (fun t => k t == 1 && Nat.testBit wh (mt_pl k t)) nn))) ([.ref (md 0), .int (nI nn), .int (nI 1), .int (nI wh)] : List Value).toArray s 0 0 (fun _ => False)) (F0 m 42 ls [.int (mt_b z7)]) := by
          intro z7 hcut42
          refine lv_istore (lv' := [(7, .int (mt_b z7)), (6, .int (nI 4)), (5, .int (nI i)), (4, .int (nI x)), (0, .ref (md 0)), (1, .int (nI nn)), (2, .int (nI 1)), (3, .int (nI wh))]) hx hb d_MM_rowOf_42 hl (by decide) rfl (fun ls hl => ?_)
          have ct65 : ∀ (z8 : Bool), z8 = x.testBit (b i % 32) → W p l e (gx_rm 0 0) s m ([.ref (md 0), .int (nI nn), .int (nI 1), .int (nI wh)] : List Value).toArray below meth c s.heap [] 0 0 (MQ below (vp_Si (fun r => r = nI (mt_pf k a b (fun t => k t == 1 && Nat.testBit wh (mt_pl k t)) nn))) ([.ref (md 0), .int (nI nn), .int (nI 1), .int (nI wh)] : List Value).toArray s 0 0 (fun _ => False)) (F0 m 65 ls [.int (mt_b z8)]) := by
            intro z8 hcut65
            refine lv_istore (lv' := [(8, .int (mt_b z8)), (7, .int (mt_b z7)), (6, .int (nI 4)), (5, .int (nI i)), (4, .int (nI x)), (0, .ref (md 0)), (1, .int (nI nn)), (2, .int (nI 1)), (3, .int (nI wh))]) hx hb d_MM_rowOf_65 hl (by decide) rfl (fun ls hl => ?_)
            have hz7 := hcut42
            have hz8 := hcut65
            have hz9 := hz8
            refine lv_iload hx hb d_MM_rowOf_67 (lv_at hl 2 rfl) ?_
            refine lv_bipush (v := nI 6) hx hb d_MM_rowOf_69 (by decide) ?_
            refine lv_icmp_eq (tgt := 117) hx hb d_MM_rowOf_71 (by decide) (fun h9 => absurd h9 (by decide)) (fun _ => ?_)
            refine lv_iload hx hb d_MM_rowOf_74 (lv_at hl 2 rfl) ?_
            refine lv_iconst (v := nI 3) hx hb d_MM_rowOf_76 (by decide) ?_
            refine lv_icmp_ne (tgt := 90) hx hb d_MM_rowOf_77 (by decide) (fun _ => ?_) (fun h9 => absurd h9 (by decide))
            refine lv_iload hx hb d_MM_rowOf_90 (lv_at hl 2 rfl) ?_
            refine lv_iconst (v := nI 4) hx hb d_MM_rowOf_92 (by decide) ?_
            refine lv_icmp_ne (tgt := 106) hx hb d_MM_rowOf_93 (by decide) (fun h9 => absurd h9 (by decide)) (fun _ => ?_)
            refine lv_iload hx hb d_MM_rowOf_96 (lv_at hl 1 rfl) ?_
            refine lv_if_eq (tgt := 106) hx hb d_MM_rowOf_98 (by decide) (mt_z fun hc98 => ?_) (mt_nz fun hc98 => ?_)
            · ---- 9F k4 98T
              refine lv_iload hx hb d_MM_rowOf_106 (lv_at hl 2 rfl) ?_
              refine lv_iconst (v := nI 5) hx hb d_MM_rowOf_108 (by decide) ?_
              refine lv_icmp_ne (tgt := 121) hx hb d_MM_rowOf_109 (by decide) (fun _ => ?_) (fun h9 => absurd h9 (by decide))
              refine lv_iconst (v := nI 0) hx hb d_MM_rowOf_121 (by decide) ?_
              refine lv_istore (lv' := [(9, .int (nI 0)), (8, .int (mt_b z8)), (7, .int (mt_b z7)), (6, .int (nI 4)), (5, .int (nI i)), (4, .int (nI x)), (0, .ref (md 0)), (1, .int (nI nn)), (2, .int (nI 1)), (3, .int (nI wh))]) hx hb d_MM_rowOf_122 hl (by decide) rfl (fun ls hl => ?_)
              refine lv_iload hx hb d_MM_rowOf_124 (lv_at hl 0 rfl) ?_
              refine lv_if_ne (tgt := 205) hx hb d_MM_rowOf_126 (by decide) (fun h9 => absurd h9 (by decide)) (fun _ => ?_)
              refine lv_iload hx hb d_MM_rowOf_129 (lv_at hl 3 rfl) ?_
              refine lv_if_ne (tgt := 153) hx hb d_MM_rowOf_131 (by decide) (fun _ => ?_) (fun h9 => absurd h9 (by decide))
              refine lv_iload hx hb d_MM_rowOf_153 (lv_at hl 3 rfl) ?_
              refine lv_iconst (v := nI 1) hx hb d_MM_rowOf_155 (by decide) ?_
              refine lv_icmp_ne (tgt := 179) hx hb d_MM_rowOf_156 (by decide) (fun _ => ?_) (fun h9 => absurd h9 (by decide))
              refine lv_iload hx hb d_MM_rowOf_179 (lv_at hl 3 rfl) ?_
              refine lv_iconst (v := nI 2) hx hb d_MM_rowOf_181 (by decide) ?_
              refine lv_icmp_ne (tgt := 209) hx hb d_MM_rowOf_182 (by decide) (fun _ => ?_) (fun h9 => absurd h9 (by decide))
              refine lv_iconst (v := nI 0) hx hb d_MM_rowOf_209 (by decide) ?_
              refine lv_istore (lv' := [(9, .int (nI 0)), (8, .int (mt_b z8)), (7, .int (mt_b z7)), (6, .int (nI 4)), (5, .int (nI i)), (4, .int (nI x)), (0, .ref (md 0)), (1, .int (nI nn)), (2, .int (nI 1)), (3, .int (nI wh))]) hx hb d_MM_rowOf_210 hl (by decide) rfl (fun ls hl => ?_)
              refine lv_iload hx hb d_MM_rowOf_212 (lv_at hl 0 rfl) ?_
              refine lv_if_eq (tgt := 227) hx hb d_MM_rowOf_214 (by decide) (fun _ => ?_) (fun h9 => absurd h9 (by decide))
              refine lv_iload hx hb d_MM_rowOf_227 (lv_at hl 5 rfl) ?_
              refine lv_istore (lv' := [(4, .int (nI x)), (9, .int (nI 0)), (8, .int (mt_b z8)), (7, .int (mt_b z7)), (6, .int (nI 4)), (5, .int (nI i)), (0, .ref (md 0)), (1, .int (nI nn)), (2, .int (nI 1)), (3, .int (nI wh))]) hx hb d_MM_rowOf_229 hl (by decide) rfl (fun ls hl => ?_)
              refine lv_iinc (k := 5) (v := nI (i + 1)) (lv' := [(5, .int (nI (i + 1))), (4, .int (nI x)), (9, .int (nI 0)), (8, .int (mt_b z8)), (7, .int (mt_b z7)), (6, .int (nI 4)), (0, .ref (md 0)), (1, .int (nI nn)), (2, .int (nI 1)), (3, .int (nI wh))]) hx hb d_MM_rowOf_231 hl rfl (by rw [lit1]; exact nI_1 _) (by decide) rfl (fun ls hl => ?_)
              refine lv_goto (tgt := 6) hx hb d_MM_rowOf_234 (by decide) ?_
              exact ih6 _ (by omega) (i + 1) x ls rfl (by omega) (mt_pf_f hx9 (by rw [Nat.mod_eq_of_lt (by have := (hw i (by omega)).2.1 (by omega) (by omega); omega)] at hz7 hz8; simp [mt_in, hkv, ← hz7, ← hz8, hc98])) (lv_sub hl [0, 1, 6, 7, 8, 9] rfl)
            · ---- 9F k4 98F
              refine lv_iload hx hb d_MM_rowOf_101 (lv_at hl 0 rfl) ?_
              refine lv_if_ne (tgt := 117) hx hb d_MM_rowOf_103 (by decide) (mt_nz fun hc103 => ?_) (mt_z fun hc103 => ?_)
              · ---- 9F k4 98F 103T
                refine lv_iconst (v := nI 1) hx hb d_MM_rowOf_117 (by decide) ?_
                refine lv_goto (tgt := 122) hx hb d_MM_rowOf_118 (by decide) ?_
                refine lv_istore (lv' := [(9, .int (nI 1)), (8, .int (mt_b z8)), (7, .int (mt_b z7)), (6, .int (nI 4)), (5, .int (nI i)), (4, .int (nI x)), (0, .ref (md 0)), (1, .int (nI nn)), (2, .int (nI 1)), (3, .int (nI wh))]) hx hb d_MM_rowOf_122 hl (by decide) rfl (fun ls hl => ?_)
                refine lv_iload hx hb d_MM_rowOf_124 (lv_at hl 0 rfl) ?_
                refine lv_if_ne (tgt := 205) hx hb d_MM_rowOf_126 (by decide) (fun _ => ?_) (fun h9 => absurd h9 (by decide))
                refine lv_iconst (v := nI 1) hx hb d_MM_rowOf_205 (by decide) ?_
                refine lv_goto (tgt := 210) hx hb d_MM_rowOf_206 (by decide) ?_
                refine lv_istore (lv' := [(9, .int (nI 1)), (8, .int (mt_b z8)), (7, .int (mt_b z7)), (6, .int (nI 4)), (5, .int (nI i)), (4, .int (nI x)), (0, .ref (md 0)), (1, .int (nI nn)), (2, .int (nI 1)), (3, .int (nI wh))]) hx hb d_MM_rowOf_210 hl (by decide) rfl (fun ls hl => ?_)
                refine lv_iload hx hb d_MM_rowOf_212 (lv_at hl 0 rfl) ?_
                refine lv_if_eq (tgt := 227) hx hb d_MM_rowOf_214 (by decide) (fun h9 => absurd h9 (by decide)) (fun _ => ?_)
                refine lv_iload hx hb d_MM_rowOf_217 (lv_at hl 5 rfl) ?_
                refine lv_iconst (v := nI 1) hx hb d_MM_rowOf_219 (by decide) ?_
                refine lv_iload hx hb d_MM_rowOf_220 (lv_at hl 4 rfl) ?_
                refine lv_ishl hx hb d_MM_rowOf_222 ?_
                refine mt_ri (y := nI (2 ^ i)) (mt_shl (by omega)) ?_
                refine lv_ior hx hb d_MM_rowOf_223 ?_
                refine mt_ri (y := nI (x ||| (2 ^ i))) (mt_or _ _) ?_
                refine lv_goto (tgt := 229) hx hb d_MM_rowOf_224 (by decide) ?_
                refine lv_istore (lv' := [(4, .int (nI (x ||| (2 ^ i)))), (9, .int (nI 1)), (8, .int (mt_b z8)), (7, .int (mt_b z7)), (6, .int (nI 4)), (5, .int (nI i)), (0, .ref (md 0)), (1, .int (nI nn)), (2, .int (nI 1)), (3, .int (nI wh))]) hx hb d_MM_rowOf_229 hl (by decide) rfl (fun ls hl => ?_)
                refine lv_iinc (k := 5) (v := nI (i + 1)) (lv' := [(5, .int (nI (i + 1))), (4, .int (nI (x ||| (2 ^ i)))), (9, .int (nI 1)), (8, .int (mt_b z8)), (7, .int (mt_b z7)), (6, .int (nI 4)), (0, .ref (md 0)), (1, .int (nI nn)), (2, .int (nI 1)), (3, .int (nI wh))]) hx hb d_MM_rowOf_231 hl rfl (by rw [lit1]; exact nI_1 _) (by decide) rfl (fun ls hl => ?_)
                refine lv_goto (tgt := 6) hx hb d_MM_rowOf_234 (by decide) ?_
                exact ih6 _ (by omega) (i + 1) (x ||| (2 ^ i)) ls rfl (by omega) (mt_pf_t hx9 (by rw [Nat.mod_eq_of_lt (by have := (hw i (by omega)).2.1 (by omega) (by omega); omega)] at hz7 hz8; simp [mt_in, hkv, ← hz7, ← hz8, hc98, hc103])) (lv_sub hl [0, 1, 6, 7, 8, 9] rfl)
              · ---- 9F k4 98F 103F
                refine lv_iload hx hb d_MM_rowOf_106 (lv_at hl 2 rfl) ?_
                refine lv_iconst (v := nI 5) hx hb d_MM_rowOf_108 (by decide) ?_
                refine lv_icmp_ne (tgt := 121) hx hb d_MM_rowOf_109 (by decide) (fun _ => ?_) (fun h9 => absurd h9 (by decide))
                refine lv_iconst (v := nI 0) hx hb d_MM_rowOf_121 (by decide) ?_
                refine lv_istore (lv' := [(9, .int (nI 0)), (8, .int (mt_b z8)), (7, .int (mt_b z7)), (6, .int (nI 4)), (5, .int (nI i)), (4, .int (nI x)), (0, .ref (md 0)), (1, .int (nI nn)), (2, .int (nI 1)), (3, .int (nI wh))]) hx hb d_MM_rowOf_122 hl (by decide) rfl (fun ls hl => ?_)
                refine lv_iload hx hb d_MM_rowOf_124 (lv_at hl 0 rfl) ?_
                refine lv_if_ne (tgt := 205) hx hb d_MM_rowOf_126 (by decide) (fun h9 => absurd h9 (by decide)) (fun _ => ?_)
                refine lv_iload hx hb d_MM_rowOf_129 (lv_at hl 3 rfl) ?_
                refine lv_if_ne (tgt := 153) hx hb d_MM_rowOf_131 (by decide) (fun _ => ?_) (fun h9 => absurd h9 (by decide))
                refine lv_iload hx hb d_MM_rowOf_153 (lv_at hl 3 rfl) ?_
                refine lv_iconst (v := nI 1) hx hb d_MM_rowOf_155 (by decide) ?_
                refine lv_icmp_ne (tgt := 179) hx hb d_MM_rowOf_156 (by decide) (fun _ => ?_) (fun h9 => absurd h9 (by decide))
                refine lv_iload hx hb d_MM_rowOf_179 (lv_at hl 3 rfl) ?_
                refine lv_iconst (v := nI 2) hx hb d_MM_rowOf_181 (by decide) ?_
                refine lv_icmp_ne (tgt := 209) hx hb d_MM_rowOf_182 (by decide) (fun _ => ?_) (fun h9 => absurd h9 (by decide))
                refine lv_iconst (v := nI 0) hx hb d_MM_rowOf_209 (by decide) ?_
                refine lv_istore (lv' := [(9, .int (nI 0)), (8, .int (mt_b z8)), (7, .int (mt_b z7)), (6, .int (nI 4)), (5, .int (nI i)), (4, .int (nI x)), (0, .ref (md 0)), (1, .int (nI nn)), (2, .int (nI 1)), (3, .int (nI wh))]) hx hb d_MM_rowOf_210 hl (by decide) rfl (fun ls hl => ?_)
                refine lv_iload hx hb d_MM_rowOf_212 (lv_at hl 0 rfl) ?_
                refine lv_if_eq (tgt := 227) hx hb d_MM_rowOf_214 (by decide) (fun _ => ?_) (fun h9 => absurd h9 (by decide))
                refine lv_iload hx hb d_MM_rowOf_227 (lv_at hl 5 rfl) ?_
                refine lv_istore (lv' := [(4, .int (nI x)), (9, .int (nI 0)), (8, .int (mt_b z8)), (7, .int (mt_b z7)), (6, .int (nI 4)), (5, .int (nI i)), (0, .ref (md 0)), (1, .int (nI nn)), (2, .int (nI 1)), (3, .int (nI wh))]) hx hb d_MM_rowOf_229 hl (by decide) rfl (fun ls hl => ?_)
                refine lv_iinc (k := 5) (v := nI (i + 1)) (lv' := [(5, .int (nI (i + 1))), (4, .int (nI x)), (9, .int (nI 0)), (8, .int (mt_b z8)), (7, .int (mt_b z7)), (6, .int (nI 4)), (0, .ref (md 0)), (1, .int (nI nn)), (2, .int (nI 1)), (3, .int (nI wh))]) hx hb d_MM_rowOf_231 hl rfl (by rw [lit1]; exact nI_1 _) (by decide) rfl (fun ls hl => ?_)
                refine lv_goto (tgt := 6) hx hb d_MM_rowOf_234 (by decide) ?_
                exact ih6 _ (by omega) (i + 1) x ls rfl (by omega) (mt_pf_f hx9 (by rw [Nat.mod_eq_of_lt (by have := (hw i (by omega)).2.1 (by omega) (by omega); omega)] at hz7 hz8; simp [mt_in, hkv, ← hz7, ← hz8, hc98, hc103])) (lv_sub hl [0, 1, 6, 7, 8, 9] rfl)
          refine lv_iload hx hb d_MM_rowOf_44 (lv_at hl 3 rfl) ?_
          refine lv_aload_n hx hb d_MM_rowOf_46 rfl (lv_at hl 4 rfl) ?_
          refine va_get (D := g.1) (own := R_MM) (ref := R_MM) (ci := 5) (v := .ref (md 3)) (C := R_MM) (T := F_MM) (N := 16) hx hb hts in_MM hown hG.1 hP 0 rfl rfl 3 (by decide) (hts _ wd_386) (fun _ h9 => h9) rfl d_MM_rowOf_47 ?_
          refine lv_iload hx hb d_MM_rowOf_50 (lv_at hl 2 rfl) ?_
          refine va_iald hx hb hG.1 hP 3 0 rfl rfl (vp_in_nI (by omega) (by decide)) d_MM_rowOf_52 ?_
          refine mt_ri (y := nI (b i)) (by rw [nI_clamp (by omega)]; exact (hT _ (by omega)).2.2) ?_
          refine lv_ishr hx hb d_MM_rowOf_53 ?_
          refine lv_iconst (v := nI 1) hx hb d_MM_rowOf_54 (by decide) ?_
          refine lv_iand hx hb d_MM_rowOf_55 ?_
          refine mt_ri (y := mt_b (Nat.testBit x ((b i) % 32))) (mt_bit32 (by omega) (by omega)) ?_
          refine lv_iconst (v := nI 1) hx hb d_MM_rowOf_56 (by decide) ?_
          refine lv_icmp_ne (tgt := 64) hx hb d_MM_rowOf_57 (by decide) (mt_nb1 fun hc57 => ?_) (mt_b1 fun hc57 => ?_)
          · ---- 9F k4 57T
            refine lv_iconst (v := nI 0) hx hb d_MM_rowOf_64 (by decide) ?_
            exact ct65 false (hc57.symm)
          · ---- 9F k4 57F
            refine lv_iconst (v := nI 1) hx hb d_MM_rowOf_60 (by decide) ?_
            refine lv_goto (tgt := 65) hx hb d_MM_rowOf_61 (by decide) ?_
            exact ct65 true (hc57.symm)
        refine lv_iload hx hb d_MM_rowOf_21 (lv_at hl 2 rfl) ?_
        refine lv_aload_n hx hb d_MM_rowOf_23 rfl (lv_at hl 3 rfl) ?_
        refine va_get (D := g.1) (own := R_MM) (ref := R_MM) (ci := 5) (v := .ref (md 2)) (C := R_MM) (T := F_MM) (N := 16) hx hb hts in_MM hown hG.1 hP 0 rfl rfl 2 (by decide) (hts _ wd_385) (fun _ h9 => h9) rfl d_MM_rowOf_24 ?_
        refine lv_iload hx hb d_MM_rowOf_27 (lv_at hl 1 rfl) ?_
        refine va_iald hx hb hG.1 hP 2 0 rfl rfl (vp_in_nI (by omega) (by decide)) d_MM_rowOf_29 ?_
        refine mt_ri (y := nI (a i)) (by rw [nI_clamp (by omega)]; exact (hT _ (by omega)).2.1) ?_
        refine lv_ishr hx hb d_MM_rowOf_30 ?_
        refine lv_iconst (v := nI 1) hx hb d_MM_rowOf_31 (by decide) ?_
        refine lv_iand hx hb d_MM_rowOf_32 ?_
        refine mt_ri (y := mt_b (Nat.testBit x ((a i) % 32))) (mt_bit32 (by omega) (by omega)) ?_
        refine lv_iconst (v := nI 1) hx hb d_MM_rowOf_33 (by decide) ?_
        refine lv_icmp_ne (tgt := 41) hx hb d_MM_rowOf_34 (by decide) (mt_nb1 fun hc34 => ?_) (mt_b1 fun hc34 => ?_)
        · ---- 9F k4 34T
          refine lv_iconst (v := nI 0) hx hb d_MM_rowOf_41 (by decide) ?_
          exact ct42 false (hc34.symm)
        · ---- 9F k4 34F
          refine lv_iconst (v := nI 1) hx hb d_MM_rowOf_37 (by decide) ?_
          refine lv_goto (tgt := 42) hx hb d_MM_rowOf_38 (by decide) ?_
          exact ct42 true (hc34.symm)
      · ---- 9F k5
        refine mt_ri (y := nI 5) (by rw [hkv]) ?_
        refine lv_istore (lv' := [(6, .int (nI 5)), (5, .int (nI i)), (4, .int (nI x)), (0, .ref (md 0)), (1, .int (nI nn)), (2, .int (nI 1)), (3, .int (nI wh))]) hx hb d_MM_rowOf_19 hl (by decide) rfl (fun ls hl => ?_)
        have ct42 : ∀ (z7 : Bool), z7 = x.testBit (a i % 32) → W p l e (gx_rm 0 0) s m ([.ref (md 0), .int (nI nn), .int (nI 1), .int (nI wh)] : List Value).toArray below meth c s.heap [] 0 0 (MQ below (vp_Si (fun r => r = nI (mt_pf k a b (fun t => k t == 1 && Nat.testBit wh (mt_pl k t)) nn))) ([.ref (md 0), .int (nI nn), .int (nI 1), .int (nI wh)] : List Value).toArray s 0 0 (fun _ => False)) (F0 m 42 ls [.int (mt_b z7)]) := by
          intro z7 hcut42
          refine lv_istore (lv' := [(7, .int (mt_b z7)), (6, .int (nI 5)), (5, .int (nI i)), (4, .int (nI x)), (0, .ref (md 0)), (1, .int (nI nn)), (2, .int (nI 1)), (3, .int (nI wh))]) hx hb d_MM_rowOf_42 hl (by decide) rfl (fun ls hl => ?_)
          have ct65 : ∀ (z8 : Bool), z8 = x.testBit (b i % 32) → W p l e (gx_rm 0 0) s m ([.ref (md 0), .int (nI nn), .int (nI 1), .int (nI wh)] : List Value).toArray below meth c s.heap [] 0 0 (MQ below (vp_Si (fun r => r = nI (mt_pf k a b (fun t => k t == 1 && Nat.testBit wh (mt_pl k t)) nn))) ([.ref (md 0), .int (nI nn), .int (nI 1), .int (nI wh)] : List Value).toArray s 0 0 (fun _ => False)) (F0 m 65 ls [.int (mt_b z8)]) := by
            intro z8 hcut65
            refine lv_istore (lv' := [(8, .int (mt_b z8)), (7, .int (mt_b z7)), (6, .int (nI 5)), (5, .int (nI i)), (4, .int (nI x)), (0, .ref (md 0)), (1, .int (nI nn)), (2, .int (nI 1)), (3, .int (nI wh))]) hx hb d_MM_rowOf_65 hl (by decide) rfl (fun ls hl => ?_)
            have hz7 := hcut42
            have hz8 := hcut65
            have hz9 := hz8
            refine lv_iload hx hb d_MM_rowOf_67 (lv_at hl 2 rfl) ?_
            refine lv_bipush (v := nI 6) hx hb d_MM_rowOf_69 (by decide) ?_
            refine lv_icmp_eq (tgt := 117) hx hb d_MM_rowOf_71 (by decide) (fun h9 => absurd h9 (by decide)) (fun _ => ?_)
            refine lv_iload hx hb d_MM_rowOf_74 (lv_at hl 2 rfl) ?_
            refine lv_iconst (v := nI 3) hx hb d_MM_rowOf_76 (by decide) ?_
            refine lv_icmp_ne (tgt := 90) hx hb d_MM_rowOf_77 (by decide) (fun _ => ?_) (fun h9 => absurd h9 (by decide))
            refine lv_iload hx hb d_MM_rowOf_90 (lv_at hl 2 rfl) ?_
            refine lv_iconst (v := nI 4) hx hb d_MM_rowOf_92 (by decide) ?_
            refine lv_icmp_ne (tgt := 106) hx hb d_MM_rowOf_93 (by decide) (fun _ => ?_) (fun h9 => absurd h9 (by decide))
            refine lv_iload hx hb d_MM_rowOf_106 (lv_at hl 2 rfl) ?_
            refine lv_iconst (v := nI 5) hx hb d_MM_rowOf_108 (by decide) ?_
            refine lv_icmp_ne (tgt := 121) hx hb d_MM_rowOf_109 (by decide) (fun h9 => absurd h9 (by decide)) (fun _ => ?_)
            refine lv_iload hx hb d_MM_rowOf_112 (lv_at hl 1 rfl) ?_
            refine lv_if_ne (tgt := 121) hx hb d_MM_rowOf_114 (by decide) (mt_nz fun hc114 => ?_) (mt_z fun hc114 => ?_)
            · ---- 9F k5 114T
              refine lv_iconst (v := nI 0) hx hb d_MM_rowOf_121 (by decide) ?_
              refine lv_istore (lv' := [(9, .int (nI 0)), (8, .int (mt_b z8)), (7, .int (mt_b z7)), (6, .int (nI 5)), (5, .int (nI i)), (4, .int (nI x)), (0, .ref (md 0)), (1, .int (nI nn)), (2, .int (nI 1)), (3, .int (nI wh))]) hx hb d_MM_rowOf_122 hl (by decide) rfl (fun ls hl => ?_)
              refine lv_iload hx hb d_MM_rowOf_124 (lv_at hl 0 rfl) ?_
              refine lv_if_ne (tgt := 205) hx hb d_MM_rowOf_126 (by decide) (fun h9 => absurd h9 (by decide)) (fun _ => ?_)
              refine lv_iload hx hb d_MM_rowOf_129 (lv_at hl 3 rfl) ?_
              refine lv_if_ne (tgt := 153) hx hb d_MM_rowOf_131 (by decide) (fun _ => ?_) (fun h9 => absurd h9 (by decide))
              refine lv_iload hx hb d_MM_rowOf_153 (lv_at hl 3 rfl) ?_
              refine lv_iconst (v := nI 1) hx hb d_MM_rowOf_155 (by decide) ?_
              refine lv_icmp_ne (tgt := 179) hx hb d_MM_rowOf_156 (by decide) (fun _ => ?_) (fun h9 => absurd h9 (by decide))
              refine lv_iload hx hb d_MM_rowOf_179 (lv_at hl 3 rfl) ?_
              refine lv_iconst (v := nI 2) hx hb d_MM_rowOf_181 (by decide) ?_
              refine lv_icmp_ne (tgt := 209) hx hb d_MM_rowOf_182 (by decide) (fun _ => ?_) (fun h9 => absurd h9 (by decide))
              refine lv_iconst (v := nI 0) hx hb d_MM_rowOf_209 (by decide) ?_
              refine lv_istore (lv' := [(9, .int (nI 0)), (8, .int (mt_b z8)), (7, .int (mt_b z7)), (6, .int (nI 5)), (5, .int (nI i)), (4, .int (nI x)), (0, .ref (md 0)), (1, .int (nI nn)), (2, .int (nI 1)), (3, .int (nI wh))]) hx hb d_MM_rowOf_210 hl (by decide) rfl (fun ls hl => ?_)
              refine lv_iload hx hb d_MM_rowOf_212 (lv_at hl 0 rfl) ?_
              refine lv_if_eq (tgt := 227) hx hb d_MM_rowOf_214 (by decide) (fun _ => ?_) (fun h9 => absurd h9 (by decide))
              refine lv_iload hx hb d_MM_rowOf_227 (lv_at hl 5 rfl) ?_
              refine lv_istore (lv' := [(4, .int (nI x)), (9, .int (nI 0)), (8, .int (mt_b z8)), (7, .int (mt_b z7)), (6, .int (nI 5)), (5, .int (nI i)), (0, .ref (md 0)), (1, .int (nI nn)), (2, .int (nI 1)), (3, .int (nI wh))]) hx hb d_MM_rowOf_229 hl (by decide) rfl (fun ls hl => ?_)
              refine lv_iinc (k := 5) (v := nI (i + 1)) (lv' := [(5, .int (nI (i + 1))), (4, .int (nI x)), (9, .int (nI 0)), (8, .int (mt_b z8)), (7, .int (mt_b z7)), (6, .int (nI 5)), (0, .ref (md 0)), (1, .int (nI nn)), (2, .int (nI 1)), (3, .int (nI wh))]) hx hb d_MM_rowOf_231 hl rfl (by rw [lit1]; exact nI_1 _) (by decide) rfl (fun ls hl => ?_)
              refine lv_goto (tgt := 6) hx hb d_MM_rowOf_234 (by decide) ?_
              exact ih6 _ (by omega) (i + 1) x ls rfl (by omega) (mt_pf_f hx9 (by rw [Nat.mod_eq_of_lt (by have := (hw i (by omega)).2.1 (by omega) (by omega); omega)] at hz7 hz8; simp [mt_in, hkv, ← hz7, ← hz8, hc114])) (lv_sub hl [0, 1, 6, 7, 8, 9] rfl)
            · ---- 9F k5 114F
              refine lv_iconst (v := nI 1) hx hb d_MM_rowOf_117 (by decide) ?_
              refine lv_goto (tgt := 122) hx hb d_MM_rowOf_118 (by decide) ?_
              refine lv_istore (lv' := [(9, .int (nI 1)), (8, .int (mt_b z8)), (7, .int (mt_b z7)), (6, .int (nI 5)), (5, .int (nI i)), (4, .int (nI x)), (0, .ref (md 0)), (1, .int (nI nn)), (2, .int (nI 1)), (3, .int (nI wh))]) hx hb d_MM_rowOf_122 hl (by decide) rfl (fun ls hl => ?_)
              refine lv_iload hx hb d_MM_rowOf_124 (lv_at hl 0 rfl) ?_
              refine lv_if_ne (tgt := 205) hx hb d_MM_rowOf_126 (by decide) (fun _ => ?_) (fun h9 => absurd h9 (by decide))
              refine lv_iconst (v := nI 1) hx hb d_MM_rowOf_205 (by decide) ?_
              refine lv_goto (tgt := 210) hx hb d_MM_rowOf_206 (by decide) ?_
              refine lv_istore (lv' := [(9, .int (nI 1)), (8, .int (mt_b z8)), (7, .int (mt_b z7)), (6, .int (nI 5)), (5, .int (nI i)), (4, .int (nI x)), (0, .ref (md 0)), (1, .int (nI nn)), (2, .int (nI 1)), (3, .int (nI wh))]) hx hb d_MM_rowOf_210 hl (by decide) rfl (fun ls hl => ?_)
              refine lv_iload hx hb d_MM_rowOf_212 (lv_at hl 0 rfl) ?_
              refine lv_if_eq (tgt := 227) hx hb d_MM_rowOf_214 (by decide) (fun h9 => absurd h9 (by decide)) (fun _ => ?_)
              refine lv_iload hx hb d_MM_rowOf_217 (lv_at hl 5 rfl) ?_
              refine lv_iconst (v := nI 1) hx hb d_MM_rowOf_219 (by decide) ?_
              refine lv_iload hx hb d_MM_rowOf_220 (lv_at hl 4 rfl) ?_
              refine lv_ishl hx hb d_MM_rowOf_222 ?_
              refine mt_ri (y := nI (2 ^ i)) (mt_shl (by omega)) ?_
              refine lv_ior hx hb d_MM_rowOf_223 ?_
              refine mt_ri (y := nI (x ||| (2 ^ i))) (mt_or _ _) ?_
              refine lv_goto (tgt := 229) hx hb d_MM_rowOf_224 (by decide) ?_
              refine lv_istore (lv' := [(4, .int (nI (x ||| (2 ^ i)))), (9, .int (nI 1)), (8, .int (mt_b z8)), (7, .int (mt_b z7)), (6, .int (nI 5)), (5, .int (nI i)), (0, .ref (md 0)), (1, .int (nI nn)), (2, .int (nI 1)), (3, .int (nI wh))]) hx hb d_MM_rowOf_229 hl (by decide) rfl (fun ls hl => ?_)
              refine lv_iinc (k := 5) (v := nI (i + 1)) (lv' := [(5, .int (nI (i + 1))), (4, .int (nI (x ||| (2 ^ i)))), (9, .int (nI 1)), (8, .int (mt_b z8)), (7, .int (mt_b z7)), (6, .int (nI 5)), (0, .ref (md 0)), (1, .int (nI nn)), (2, .int (nI 1)), (3, .int (nI wh))]) hx hb d_MM_rowOf_231 hl rfl (by rw [lit1]; exact nI_1 _) (by decide) rfl (fun ls hl => ?_)
              refine lv_goto (tgt := 6) hx hb d_MM_rowOf_234 (by decide) ?_
              exact ih6 _ (by omega) (i + 1) (x ||| (2 ^ i)) ls rfl (by omega) (mt_pf_t hx9 (by rw [Nat.mod_eq_of_lt (by have := (hw i (by omega)).2.1 (by omega) (by omega); omega)] at hz7 hz8; simp [mt_in, hkv, ← hz7, ← hz8, hc114])) (lv_sub hl [0, 1, 6, 7, 8, 9] rfl)
          refine lv_iload hx hb d_MM_rowOf_44 (lv_at hl 3 rfl) ?_
          refine lv_aload_n hx hb d_MM_rowOf_46 rfl (lv_at hl 4 rfl) ?_
          refine va_get (D := g.1) (own := R_MM) (ref := R_MM) (ci := 5) (v := .ref (md 3)) (C := R_MM) (T := F_MM) (N := 16) hx hb hts in_MM hown hG.1 hP 0 rfl rfl 3 (by decide) (hts _ wd_386) (fun _ h9 => h9) rfl d_MM_rowOf_47 ?_
          refine lv_iload hx hb d_MM_rowOf_50 (lv_at hl 2 rfl) ?_
          refine va_iald hx hb hG.1 hP 3 0 rfl rfl (vp_in_nI (by omega) (by decide)) d_MM_rowOf_52 ?_
          refine mt_ri (y := nI (b i)) (by rw [nI_clamp (by omega)]; exact (hT _ (by omega)).2.2) ?_
          refine lv_ishr hx hb d_MM_rowOf_53 ?_
          refine lv_iconst (v := nI 1) hx hb d_MM_rowOf_54 (by decide) ?_
          refine lv_iand hx hb d_MM_rowOf_55 ?_
          refine mt_ri (y := mt_b (Nat.testBit x ((b i) % 32))) (mt_bit32 (by omega) (by omega)) ?_
          refine lv_iconst (v := nI 1) hx hb d_MM_rowOf_56 (by decide) ?_
          refine lv_icmp_ne (tgt := 64) hx hb d_MM_rowOf_57 (by decide) (mt_nb1 fun hc57 => ?_) (mt_b1 fun hc57 => ?_)
          · ---- 9F k5 57T
            refine lv_iconst (v := nI 0) hx hb d_MM_rowOf_64 (by decide) ?_
            exact ct65 false (hc57.symm)
          · ---- 9F k5 57F
            refine lv_iconst (v := nI 1) hx hb d_MM_rowOf_60 (by decide) ?_
            refine lv_goto (tgt := 65) hx hb d_MM_rowOf_61 (by decide) ?_
            exact ct65 true (hc57.symm)
        refine lv_iload hx hb d_MM_rowOf_21 (lv_at hl 2 rfl) ?_
        refine lv_aload_n hx hb d_MM_rowOf_23 rfl (lv_at hl 3 rfl) ?_
        refine va_get (D := g.1) (own := R_MM) (ref := R_MM) (ci := 5) (v := .ref (md 2)) (C := R_MM) (T := F_MM) (N := 16) hx hb hts in_MM hown hG.1 hP 0 rfl rfl 2 (by decide) (hts _ wd_385) (fun _ h9 => h9) rfl d_MM_rowOf_24 ?_
        refine lv_iload hx hb d_MM_rowOf_27 (lv_at hl 1 rfl) ?_
        refine va_iald hx hb hG.1 hP 2 0 rfl rfl (vp_in_nI (by omega) (by decide)) d_MM_rowOf_29 ?_
        refine mt_ri (y := nI (a i)) (by rw [nI_clamp (by omega)]; exact (hT _ (by omega)).2.1) ?_
        refine lv_ishr hx hb d_MM_rowOf_30 ?_
        refine lv_iconst (v := nI 1) hx hb d_MM_rowOf_31 (by decide) ?_
        refine lv_iand hx hb d_MM_rowOf_32 ?_
        refine mt_ri (y := mt_b (Nat.testBit x ((a i) % 32))) (mt_bit32 (by omega) (by omega)) ?_
        refine lv_iconst (v := nI 1) hx hb d_MM_rowOf_33 (by decide) ?_
        refine lv_icmp_ne (tgt := 41) hx hb d_MM_rowOf_34 (by decide) (mt_nb1 fun hc34 => ?_) (mt_b1 fun hc34 => ?_)
        · ---- 9F k5 34T
          refine lv_iconst (v := nI 0) hx hb d_MM_rowOf_41 (by decide) ?_
          exact ct42 false (hc34.symm)
        · ---- 9F k5 34F
          refine lv_iconst (v := nI 1) hx hb d_MM_rowOf_37 (by decide) ?_
          refine lv_goto (tgt := 42) hx hb d_MM_rowOf_38 (by decide) ?_
          exact ct42 true (hc34.symm)
      · ---- 9F k6
        refine mt_ri (y := nI 6) (by rw [hkv]) ?_
        refine lv_istore (lv' := [(6, .int (nI 6)), (5, .int (nI i)), (4, .int (nI x)), (0, .ref (md 0)), (1, .int (nI nn)), (2, .int (nI 1)), (3, .int (nI wh))]) hx hb d_MM_rowOf_19 hl (by decide) rfl (fun ls hl => ?_)
        have ct42 : ∀ (z7 : Bool), z7 = x.testBit (a i % 32) → W p l e (gx_rm 0 0) s m ([.ref (md 0), .int (nI nn), .int (nI 1), .int (nI wh)] : List Value).toArray below meth c s.heap [] 0 0 (MQ below (vp_Si (fun r => r = nI (mt_pf k a b (fun t => k t == 1 && Nat.testBit wh (mt_pl k t)) nn))) ([.ref (md 0), .int (nI nn), .int (nI 1), .int (nI wh)] : List Value).toArray s 0 0 (fun _ => False)) (F0 m 42 ls [.int (mt_b z7)]) := by
          intro z7 hcut42
          refine lv_istore (lv' := [(7, .int (mt_b z7)), (6, .int (nI 6)), (5, .int (nI i)), (4, .int (nI x)), (0, .ref (md 0)), (1, .int (nI nn)), (2, .int (nI 1)), (3, .int (nI wh))]) hx hb d_MM_rowOf_42 hl (by decide) rfl (fun ls hl => ?_)
          have ct65 : ∀ (z8 : Bool), z8 = x.testBit (b i % 32) → W p l e (gx_rm 0 0) s m ([.ref (md 0), .int (nI nn), .int (nI 1), .int (nI wh)] : List Value).toArray below meth c s.heap [] 0 0 (MQ below (vp_Si (fun r => r = nI (mt_pf k a b (fun t => k t == 1 && Nat.testBit wh (mt_pl k t)) nn))) ([.ref (md 0), .int (nI nn), .int (nI 1), .int (nI wh)] : List Value).toArray s 0 0 (fun _ => False)) (F0 m 65 ls [.int (mt_b z8)]) := by
            intro z8 hcut65
            refine lv_istore (lv' := [(8, .int (mt_b z8)), (7, .int (mt_b z7)), (6, .int (nI 6)), (5, .int (nI i)), (4, .int (nI x)), (0, .ref (md 0)), (1, .int (nI nn)), (2, .int (nI 1)), (3, .int (nI wh))]) hx hb d_MM_rowOf_65 hl (by decide) rfl (fun ls hl => ?_)
            have hz7 := hcut42
            have hz8 := hcut65
            have hz9 := hz8
            refine lv_iload hx hb d_MM_rowOf_67 (lv_at hl 2 rfl) ?_
            refine lv_bipush (v := nI 6) hx hb d_MM_rowOf_69 (by decide) ?_
            refine lv_icmp_eq (tgt := 117) hx hb d_MM_rowOf_71 (by decide) (fun _ => ?_) (fun h9 => absurd h9 (by decide))
            refine lv_iconst (v := nI 1) hx hb d_MM_rowOf_117 (by decide) ?_
            refine lv_goto (tgt := 122) hx hb d_MM_rowOf_118 (by decide) ?_
            refine lv_istore (lv' := [(9, .int (nI 1)), (8, .int (mt_b z8)), (7, .int (mt_b z7)), (6, .int (nI 6)), (5, .int (nI i)), (4, .int (nI x)), (0, .ref (md 0)), (1, .int (nI nn)), (2, .int (nI 1)), (3, .int (nI wh))]) hx hb d_MM_rowOf_122 hl (by decide) rfl (fun ls hl => ?_)
            refine lv_iload hx hb d_MM_rowOf_124 (lv_at hl 0 rfl) ?_
            refine lv_if_ne (tgt := 205) hx hb d_MM_rowOf_126 (by decide) (fun _ => ?_) (fun h9 => absurd h9 (by decide))
            refine lv_iconst (v := nI 1) hx hb d_MM_rowOf_205 (by decide) ?_
            refine lv_goto (tgt := 210) hx hb d_MM_rowOf_206 (by decide) ?_
            refine lv_istore (lv' := [(9, .int (nI 1)), (8, .int (mt_b z8)), (7, .int (mt_b z7)), (6, .int (nI 6)), (5, .int (nI i)), (4, .int (nI x)), (0, .ref (md 0)), (1, .int (nI nn)), (2, .int (nI 1)), (3, .int (nI wh))]) hx hb d_MM_rowOf_210 hl (by decide) rfl (fun ls hl => ?_)
            refine lv_iload hx hb d_MM_rowOf_212 (lv_at hl 0 rfl) ?_
            refine lv_if_eq (tgt := 227) hx hb d_MM_rowOf_214 (by decide) (fun h9 => absurd h9 (by decide)) (fun _ => ?_)
            refine lv_iload hx hb d_MM_rowOf_217 (lv_at hl 5 rfl) ?_
            refine lv_iconst (v := nI 1) hx hb d_MM_rowOf_219 (by decide) ?_
            refine lv_iload hx hb d_MM_rowOf_220 (lv_at hl 4 rfl) ?_
            refine lv_ishl hx hb d_MM_rowOf_222 ?_
            refine mt_ri (y := nI (2 ^ i)) (mt_shl (by omega)) ?_
            refine lv_ior hx hb d_MM_rowOf_223 ?_
            refine mt_ri (y := nI (x ||| (2 ^ i))) (mt_or _ _) ?_
            refine lv_goto (tgt := 229) hx hb d_MM_rowOf_224 (by decide) ?_
            refine lv_istore (lv' := [(4, .int (nI (x ||| (2 ^ i)))), (9, .int (nI 1)), (8, .int (mt_b z8)), (7, .int (mt_b z7)), (6, .int (nI 6)), (5, .int (nI i)), (0, .ref (md 0)), (1, .int (nI nn)), (2, .int (nI 1)), (3, .int (nI wh))]) hx hb d_MM_rowOf_229 hl (by decide) rfl (fun ls hl => ?_)
            refine lv_iinc (k := 5) (v := nI (i + 1)) (lv' := [(5, .int (nI (i + 1))), (4, .int (nI (x ||| (2 ^ i)))), (9, .int (nI 1)), (8, .int (mt_b z8)), (7, .int (mt_b z7)), (6, .int (nI 6)), (0, .ref (md 0)), (1, .int (nI nn)), (2, .int (nI 1)), (3, .int (nI wh))]) hx hb d_MM_rowOf_231 hl rfl (by rw [lit1]; exact nI_1 _) (by decide) rfl (fun ls hl => ?_)
            refine lv_goto (tgt := 6) hx hb d_MM_rowOf_234 (by decide) ?_
            exact ih6 _ (by omega) (i + 1) (x ||| (2 ^ i)) ls rfl (by omega) (mt_pf_t hx9 (by simp [mt_in, hkv])) (lv_sub hl [0, 1, 6, 7, 8, 9] rfl)
          refine lv_iload hx hb d_MM_rowOf_44 (lv_at hl 3 rfl) ?_
          refine lv_aload_n hx hb d_MM_rowOf_46 rfl (lv_at hl 4 rfl) ?_
          refine va_get (D := g.1) (own := R_MM) (ref := R_MM) (ci := 5) (v := .ref (md 3)) (C := R_MM) (T := F_MM) (N := 16) hx hb hts in_MM hown hG.1 hP 0 rfl rfl 3 (by decide) (hts _ wd_386) (fun _ h9 => h9) rfl d_MM_rowOf_47 ?_
          refine lv_iload hx hb d_MM_rowOf_50 (lv_at hl 2 rfl) ?_
          refine va_iald hx hb hG.1 hP 3 0 rfl rfl (vp_in_nI (by omega) (by decide)) d_MM_rowOf_52 ?_
          refine mt_ri (y := nI (b i)) (by rw [nI_clamp (by omega)]; exact (hT _ (by omega)).2.2) ?_
          refine lv_ishr hx hb d_MM_rowOf_53 ?_
          refine lv_iconst (v := nI 1) hx hb d_MM_rowOf_54 (by decide) ?_
          refine lv_iand hx hb d_MM_rowOf_55 ?_
          refine mt_ri (y := mt_b (Nat.testBit x ((b i) % 32))) (mt_bit32 (by omega) (by omega)) ?_
          refine lv_iconst (v := nI 1) hx hb d_MM_rowOf_56 (by decide) ?_
          refine lv_icmp_ne (tgt := 64) hx hb d_MM_rowOf_57 (by decide) (mt_nb1 fun hc57 => ?_) (mt_b1 fun hc57 => ?_)
          · ---- 9F k6 57T
            refine lv_iconst (v := nI 0) hx hb d_MM_rowOf_64 (by decide) ?_
            exact ct65 false (hc57.symm)
          · ---- 9F k6 57F
            refine lv_iconst (v := nI 1) hx hb d_MM_rowOf_60 (by decide) ?_
            refine lv_goto (tgt := 65) hx hb d_MM_rowOf_61 (by decide) ?_
            exact ct65 true (hc57.symm)
        refine lv_iload hx hb d_MM_rowOf_21 (lv_at hl 2 rfl) ?_
        refine lv_aload_n hx hb d_MM_rowOf_23 rfl (lv_at hl 3 rfl) ?_
        refine va_get (D := g.1) (own := R_MM) (ref := R_MM) (ci := 5) (v := .ref (md 2)) (C := R_MM) (T := F_MM) (N := 16) hx hb hts in_MM hown hG.1 hP 0 rfl rfl 2 (by decide) (hts _ wd_385) (fun _ h9 => h9) rfl d_MM_rowOf_24 ?_
        refine lv_iload hx hb d_MM_rowOf_27 (lv_at hl 1 rfl) ?_
        refine va_iald hx hb hG.1 hP 2 0 rfl rfl (vp_in_nI (by omega) (by decide)) d_MM_rowOf_29 ?_
        refine mt_ri (y := nI (a i)) (by rw [nI_clamp (by omega)]; exact (hT _ (by omega)).2.1) ?_
        refine lv_ishr hx hb d_MM_rowOf_30 ?_
        refine lv_iconst (v := nI 1) hx hb d_MM_rowOf_31 (by decide) ?_
        refine lv_iand hx hb d_MM_rowOf_32 ?_
        refine mt_ri (y := mt_b (Nat.testBit x ((a i) % 32))) (mt_bit32 (by omega) (by omega)) ?_
        refine lv_iconst (v := nI 1) hx hb d_MM_rowOf_33 (by decide) ?_
        refine lv_icmp_ne (tgt := 41) hx hb d_MM_rowOf_34 (by decide) (mt_nb1 fun hc34 => ?_) (mt_b1 fun hc34 => ?_)
        · ---- 9F k6 34T
          refine lv_iconst (v := nI 0) hx hb d_MM_rowOf_41 (by decide) ?_
          exact ct42 false (hc34.symm)
        · ---- 9F k6 34F
          refine lv_iconst (v := nI 1) hx hb d_MM_rowOf_37 (by decide) ?_
          refine lv_goto (tgt := 42) hx hb d_MM_rowOf_38 (by decide) ?_
          exact ct42 true (hc34.symm)
  exact lp6 _ 0 0 ls rfl (Nat.zero_le _) (rfl) (lv_sub hl [0, 1, 2, 3, 4, 5] rfl)

set_option maxHeartbeats 4000000 in
set_option maxRecDepth 100000 in
theorem c_MM_rowOf2 {g : gG} {md : Nat → Nat} {J : Nat → Nat → Int32} {n v kn pr ar : Nat} {X : Nat → Int64} {k a b : Nat → Nat} {nn wh : Nat} {l : Launch} (hT : mt_MT J nn k a b) (hn13 : nn ≤ 13) (hw : mt_wf k a b nn) (hN : mt_NU J pr ar nn k) (hwh : wh < 8192) :
    gc_RO l y_MM_rowOf (gx_ws y_MM_rowOf b_MM_rowOf 10 (some .int)) 0 0 g [.ref (md 0), .int (nI nn), .int (nI 2), .int (nI wh)] (mW g md J n v kn pr ar X) (fun r => r = nI (mt_pf k a b (fun t => k t == 2 && Nat.testBit wh (mt_pl k t)) nn)) := by
  refine gx_body (by decide) (Nat.le_of_ble_eq_true rfl) ?_
  intro p e s m below meth c ls hAt hB hl
  obtain ⟨hx, hb, hml, hown, hts, hr, hlk, hnm⟩ := hAt
  have hown : s.vm.findClass R_MM = some m.cls := hown
  obtain ⟨hP, hG⟩ := hB
  have hl : lv_has ls 10 [(0, .ref (md 0)), (1, .int (nI nn)), (2, .int (nI 2)), (3, .int (nI wh))] := hl
  refine lv_iconst (v := nI 0) hx hb d_MM_rowOf_0 (by decide) ?_
  refine lv_istore (lv' := [(4, .int (nI 0)), (0, .ref (md 0)), (1, .int (nI nn)), (2, .int (nI 2)), (3, .int (nI wh))]) hx hb d_MM_rowOf_1 hl (by decide) rfl (fun ls hl => ?_)
  refine lv_iconst (v := nI 0) hx hb d_MM_rowOf_3 (by decide) ?_
  refine lv_istore (lv' := [(5, .int (nI 0)), (4, .int (nI 0)), (0, .ref (md 0)), (1, .int (nI nn)), (2, .int (nI 2)), (3, .int (nI wh))]) hx hb d_MM_rowOf_4 hl (by decide) rfl (fun ls hl => ?_)
  have lp6 : ∀ (d : Nat) (i : Nat) (x : Nat) (ls : Array Slot), d = nn - i → (i ≤ nn) → (x = mt_pf k a b (fun t => k t == 2 && Nat.testBit wh (mt_pl k t)) i) → lv_has ls 10 [(5, .int (nI i)), (4, .int (nI x)), (0, .ref (md 0)), (1, .int (nI nn)), (2, .int (nI 2)), (3, .int (nI wh))] → W p l e (gx_rm 0 0) s m ([.ref (md 0), .int (nI nn), .int (nI 2), .int (nI wh)] : List Value).toArray below meth c s.heap [] 0 0 (MQ below (vp_Si (fun r => r = nI (mt_pf k a b (fun t => k t == 2 && Nat.testBit wh (mt_pl k t)) nn))) ([.ref (md 0), .int (nI nn), .int (nI 2), .int (nI wh)] : List Value).toArray s 0 0 (fun _ => False)) (F0 m 6 ls []) := by
    intro d
    induction d using Nat.strongRecOn with
    | ind d ih6 =>
    intro i x ls hd hi hx9 hl
    refine lv_iload hx hb d_MM_rowOf_6 (lv_at hl 0 rfl) ?_
    refine lv_iload_n hx hb d_MM_rowOf_8 rfl (lv_at hl 3 rfl) ?_
    refine lv_icmp_ge (tgt := 237) hx hb d_MM_rowOf_9 (by decide) (mt_le (by omega) (by omega) fun hc9 => ?_) (mt_nle (by omega) (by omega) fun hc9 => ?_)
    · ---- 9T
      refine lv_iload hx hb d_MM_rowOf_237 (lv_at hl 1 rfl) ?_
      exact gc_reti (post := fun r => r = nI (mt_pf k a b (fun t => k t == 2 && Nat.testBit wh (mt_pl k t)) nn)) hx hb hr hlk (by rw [hx9, show i = nn by omega]) d_MM_rowOf_239
    · ---- 9F
      have hw1 := hw i (by omega)
      have hx13 : x < 8192 := by rw [hx9]; exact mt_lt13 (mt_pf_lt _ _ _ _ _) (by omega)
      have hpl := mt_pl_le (k := k) i
      refine lv_aload_n hx hb d_MM_rowOf_12 rfl (lv_at hl 2 rfl) ?_
      refine va_get (D := g.1) (own := R_MM) (ref := R_MM) (ci := 5) (v := .ref (md 1)) (C := R_MM) (T := F_MM) (N := 16) hx hb hts in_MM hown hG.1 hP 0 rfl rfl 1 (by decide) (hts _ wd_384) (fun _ h9 => h9) rfl d_MM_rowOf_13 ?_
      refine lv_iload hx hb d_MM_rowOf_16 (lv_at hl 0 rfl) ?_
      refine va_iald hx hb hG.1 hP 1 0 rfl rfl (vp_in_nI (by omega) (by decide)) d_MM_rowOf_18 ?_
      refine mt_ri (y := nI (k i)) (by rw [nI_clamp (by omega)]; exact (hT _ (by omega)).1) ?_
      have hk7 : k i = 0 ∨ k i = 1 ∨ k i = 2 ∨ k i = 3 ∨ k i = 4 ∨ k i = 5 ∨ k i = 6 := by omega
      rcases hk7 with hkv | hkv | hkv | hkv | hkv | hkv | hkv
      · ---- 9F k0
        refine mt_ri (y := nI 0) (by rw [hkv]) ?_
        refine lv_istore (lv' := [(6, .int (nI 0)), (5, .int (nI i)), (4, .int (nI x)), (0, .ref (md 0)), (1, .int (nI nn)), (2, .int (nI 2)), (3, .int (nI wh))]) hx hb d_MM_rowOf_19 hl (by decide) rfl (fun ls hl => ?_)
        have ct42 : ∀ (z7 : Bool), z7 = x.testBit (a i % 32) → W p l e (gx_rm 0 0) s m ([.ref (md 0), .int (nI nn), .int (nI 2), .int (nI wh)] : List Value).toArray below meth c s.heap [] 0 0 (MQ below (vp_Si (fun r => r = nI (mt_pf k a b (fun t => k t == 2 && Nat.testBit wh (mt_pl k t)) nn))) ([.ref (md 0), .int (nI nn), .int (nI 2), .int (nI wh)] : List Value).toArray s 0 0 (fun _ => False)) (F0 m 42 ls [.int (mt_b z7)]) := by
          intro z7 hcut42
          refine lv_istore (lv' := [(7, .int (mt_b z7)), (6, .int (nI 0)), (5, .int (nI i)), (4, .int (nI x)), (0, .ref (md 0)), (1, .int (nI nn)), (2, .int (nI 2)), (3, .int (nI wh))]) hx hb d_MM_rowOf_42 hl (by decide) rfl (fun ls hl => ?_)
          have ct65 : ∀ (z8 : Bool), z8 = x.testBit (b i % 32) → W p l e (gx_rm 0 0) s m ([.ref (md 0), .int (nI nn), .int (nI 2), .int (nI wh)] : List Value).toArray below meth c s.heap [] 0 0 (MQ below (vp_Si (fun r => r = nI (mt_pf k a b (fun t => k t == 2 && Nat.testBit wh (mt_pl k t)) nn))) ([.ref (md 0), .int (nI nn), .int (nI 2), .int (nI wh)] : List Value).toArray s 0 0 (fun _ => False)) (F0 m 65 ls [.int (mt_b z8)]) := by
            intro z8 hcut65
            refine lv_istore (lv' := [(8, .int (mt_b z8)), (7, .int (mt_b z7)), (6, .int (nI 0)), (5, .int (nI i)), (4, .int (nI x)), (0, .ref (md 0)), (1, .int (nI nn)), (2, .int (nI 2)), (3, .int (nI wh))]) hx hb d_MM_rowOf_65 hl (by decide) rfl (fun ls hl => ?_)
            have hz7 := hcut42
            have hz8 := hcut65
            have hz9 := hz8
            refine lv_iload hx hb d_MM_rowOf_67 (lv_at hl 2 rfl) ?_
            refine lv_bipush (v := nI 6) hx hb d_MM_rowOf_69 (by decide) ?_
            refine lv_icmp_eq (tgt := 117) hx hb d_MM_rowOf_71 (by decide) (fun h9 => absurd h9 (by decide)) (fun _ => ?_)
            refine lv_iload hx hb d_MM_rowOf_74 (lv_at hl 2 rfl) ?_
            refine lv_iconst (v := nI 3) hx hb d_MM_rowOf_76 (by decide) ?_
            refine lv_icmp_ne (tgt := 90) hx hb d_MM_rowOf_77 (by decide) (fun _ => ?_) (fun h9 => absurd h9 (by decide))
            refine lv_iload hx hb d_MM_rowOf_90 (lv_at hl 2 rfl) ?_
            refine lv_iconst (v := nI 4) hx hb d_MM_rowOf_92 (by decide) ?_
            refine lv_icmp_ne (tgt := 106) hx hb d_MM_rowOf_93 (by decide) (fun _ => ?_) (fun h9 => absurd h9 (by decide))
            refine lv_iload hx hb d_MM_rowOf_106 (lv_at hl 2 rfl) ?_
            refine lv_iconst (v := nI 5) hx hb d_MM_rowOf_108 (by decide) ?_
            refine lv_icmp_ne (tgt := 121) hx hb d_MM_rowOf_109 (by decide) (fun _ => ?_) (fun h9 => absurd h9 (by decide))
            refine lv_iconst (v := nI 0) hx hb d_MM_rowOf_121 (by decide) ?_
            refine lv_istore (lv' := [(9, .int (nI 0)), (8, .int (mt_b z8)), (7, .int (mt_b z7)), (6, .int (nI 0)), (5, .int (nI i)), (4, .int (nI x)), (0, .ref (md 0)), (1, .int (nI nn)), (2, .int (nI 2)), (3, .int (nI wh))]) hx hb d_MM_rowOf_122 hl (by decide) rfl (fun ls hl => ?_)
            refine lv_iload hx hb d_MM_rowOf_124 (lv_at hl 0 rfl) ?_
            refine lv_if_ne (tgt := 205) hx hb d_MM_rowOf_126 (by decide) (fun h9 => absurd h9 (by decide)) (fun _ => ?_)
            refine lv_iload hx hb d_MM_rowOf_129 (lv_at hl 3 rfl) ?_
            refine lv_if_ne (tgt := 153) hx hb d_MM_rowOf_131 (by decide) (fun h9 => absurd h9 (by decide)) (fun _ => ?_)
            refine lv_iload_n hx hb d_MM_rowOf_134 rfl (lv_at hl 8 rfl) ?_
            refine lv_if_ne (tgt := 153) hx hb d_MM_rowOf_135 (by decide) (fun _ => ?_) (fun h9 => absurd h9 (by decide))
            refine lv_iload hx hb d_MM_rowOf_153 (lv_at hl 3 rfl) ?_
            refine lv_iconst (v := nI 1) hx hb d_MM_rowOf_155 (by decide) ?_
            refine lv_icmp_ne (tgt := 179) hx hb d_MM_rowOf_156 (by decide) (fun _ => ?_) (fun h9 => absurd h9 (by decide))
            refine lv_iload hx hb d_MM_rowOf_179 (lv_at hl 3 rfl) ?_
            refine lv_iconst (v := nI 2) hx hb d_MM_rowOf_181 (by decide) ?_
            refine lv_icmp_ne (tgt := 209) hx hb d_MM_rowOf_182 (by decide) (fun _ => ?_) (fun h9 => absurd h9 (by decide))
            refine lv_iconst (v := nI 0) hx hb d_MM_rowOf_209 (by decide) ?_
            refine lv_istore (lv' := [(9, .int (nI 0)), (8, .int (mt_b z8)), (7, .int (mt_b z7)), (6, .int (nI 0)), (5, .int (nI i)), (4, .int (nI x)), (0, .ref (md 0)), (1, .int (nI nn)), (2, .int (nI 2)), (3, .int (nI wh))]) hx hb d_MM_rowOf_210 hl (by decide) rfl (fun ls hl => ?_)
            refine lv_iload hx hb d_MM_rowOf_212 (lv_at hl 0 rfl) ?_
            refine lv_if_eq (tgt := 227) hx hb d_MM_rowOf_214 (by decide) (fun _ => ?_) (fun h9 => absurd h9 (by decide))
            refine lv_iload hx hb d_MM_rowOf_227 (lv_at hl 5 rfl) ?_
            refine lv_istore (lv' := [(4, .int (nI x)), (9, .int (nI 0)), (8, .int (mt_b z8)), (7, .int (mt_b z7)), (6, .int (nI 0)), (5, .int (nI i)), (0, .ref (md 0)), (1, .int (nI nn)), (2, .int (nI 2)), (3, .int (nI wh))]) hx hb d_MM_rowOf_229 hl (by decide) rfl (fun ls hl => ?_)
            refine lv_iinc (k := 5) (v := nI (i + 1)) (lv' := [(5, .int (nI (i + 1))), (4, .int (nI x)), (9, .int (nI 0)), (8, .int (mt_b z8)), (7, .int (mt_b z7)), (6, .int (nI 0)), (0, .ref (md 0)), (1, .int (nI nn)), (2, .int (nI 2)), (3, .int (nI wh))]) hx hb d_MM_rowOf_231 hl rfl (by rw [lit1]; exact nI_1 _) (by decide) rfl (fun ls hl => ?_)
            refine lv_goto (tgt := 6) hx hb d_MM_rowOf_234 (by decide) ?_
            exact ih6 _ (by omega) (i + 1) x ls rfl (by omega) (mt_pf_f hx9 (by simp [mt_in, hkv])) (lv_sub hl [0, 1, 6, 7, 8, 9] rfl)
          refine lv_iload hx hb d_MM_rowOf_44 (lv_at hl 3 rfl) ?_
          refine lv_aload_n hx hb d_MM_rowOf_46 rfl (lv_at hl 4 rfl) ?_
          refine va_get (D := g.1) (own := R_MM) (ref := R_MM) (ci := 5) (v := .ref (md 3)) (C := R_MM) (T := F_MM) (N := 16) hx hb hts in_MM hown hG.1 hP 0 rfl rfl 3 (by decide) (hts _ wd_386) (fun _ h9 => h9) rfl d_MM_rowOf_47 ?_
          refine lv_iload hx hb d_MM_rowOf_50 (lv_at hl 2 rfl) ?_
          refine va_iald hx hb hG.1 hP 3 0 rfl rfl (vp_in_nI (by omega) (by decide)) d_MM_rowOf_52 ?_
          refine mt_ri (y := nI (b i)) (by rw [nI_clamp (by omega)]; exact (hT _ (by omega)).2.2) ?_
          refine lv_ishr hx hb d_MM_rowOf_53 ?_
          refine lv_iconst (v := nI 1) hx hb d_MM_rowOf_54 (by decide) ?_
          refine lv_iand hx hb d_MM_rowOf_55 ?_
          refine mt_ri (y := mt_b (Nat.testBit x ((b i) % 32))) (mt_bit32 (by omega) (by omega)) ?_
          refine lv_iconst (v := nI 1) hx hb d_MM_rowOf_56 (by decide) ?_
          refine lv_icmp_ne (tgt := 64) hx hb d_MM_rowOf_57 (by decide) (mt_nb1 fun hc57 => ?_) (mt_b1 fun hc57 => ?_)
          · ---- 9F k0 57T
            refine lv_iconst (v := nI 0) hx hb d_MM_rowOf_64 (by decide) ?_
            exact ct65 false (hc57.symm)
          · ---- 9F k0 57F
            refine lv_iconst (v := nI 1) hx hb d_MM_rowOf_60 (by decide) ?_
            refine lv_goto (tgt := 65) hx hb d_MM_rowOf_61 (by decide) ?_
            exact ct65 true (hc57.symm)
        refine lv_iload hx hb d_MM_rowOf_21 (lv_at hl 2 rfl) ?_
        refine lv_aload_n hx hb d_MM_rowOf_23 rfl (lv_at hl 3 rfl) ?_
        refine va_get (D := g.1) (own := R_MM) (ref := R_MM) (ci := 5) (v := .ref (md 2)) (C := R_MM) (T := F_MM) (N := 16) hx hb hts in_MM hown hG.1 hP 0 rfl rfl 2 (by decide) (hts _ wd_385) (fun _ h9 => h9) rfl d_MM_rowOf_24 ?_
        refine lv_iload hx hb d_MM_rowOf_27 (lv_at hl 1 rfl) ?_
        refine va_iald hx hb hG.1 hP 2 0 rfl rfl (vp_in_nI (by omega) (by decide)) d_MM_rowOf_29 ?_
        refine mt_ri (y := nI (a i)) (by rw [nI_clamp (by omega)]; exact (hT _ (by omega)).2.1) ?_
        refine lv_ishr hx hb d_MM_rowOf_30 ?_
        refine lv_iconst (v := nI 1) hx hb d_MM_rowOf_31 (by decide) ?_
        refine lv_iand hx hb d_MM_rowOf_32 ?_
        refine mt_ri (y := mt_b (Nat.testBit x ((a i) % 32))) (mt_bit32 (by omega) (by omega)) ?_
        refine lv_iconst (v := nI 1) hx hb d_MM_rowOf_33 (by decide) ?_
        refine lv_icmp_ne (tgt := 41) hx hb d_MM_rowOf_34 (by decide) (mt_nb1 fun hc34 => ?_) (mt_b1 fun hc34 => ?_)
        · ---- 9F k0 34T
          refine lv_iconst (v := nI 0) hx hb d_MM_rowOf_41 (by decide) ?_
          exact ct42 false (hc34.symm)
        · ---- 9F k0 34F
          refine lv_iconst (v := nI 1) hx hb d_MM_rowOf_37 (by decide) ?_
          refine lv_goto (tgt := 42) hx hb d_MM_rowOf_38 (by decide) ?_
          exact ct42 true (hc34.symm)
      · ---- 9F k1
        refine mt_ri (y := nI 1) (by rw [hkv]) ?_
        refine lv_istore (lv' := [(6, .int (nI 1)), (5, .int (nI i)), (4, .int (nI x)), (0, .ref (md 0)), (1, .int (nI nn)), (2, .int (nI 2)), (3, .int (nI wh))]) hx hb d_MM_rowOf_19 hl (by decide) rfl (fun ls hl => ?_)
        have ct42 : ∀ (z7 : Bool), z7 = x.testBit (a i % 32) → W p l e (gx_rm 0 0) s m ([.ref (md 0), .int (nI nn), .int (nI 2), .int (nI wh)] : List Value).toArray below meth c s.heap [] 0 0 (MQ below (vp_Si (fun r => r = nI (mt_pf k a b (fun t => k t == 2 && Nat.testBit wh (mt_pl k t)) nn))) ([.ref (md 0), .int (nI nn), .int (nI 2), .int (nI wh)] : List Value).toArray s 0 0 (fun _ => False)) (F0 m 42 ls [.int (mt_b z7)]) := by
          intro z7 hcut42
          refine lv_istore (lv' := [(7, .int (mt_b z7)), (6, .int (nI 1)), (5, .int (nI i)), (4, .int (nI x)), (0, .ref (md 0)), (1, .int (nI nn)), (2, .int (nI 2)), (3, .int (nI wh))]) hx hb d_MM_rowOf_42 hl (by decide) rfl (fun ls hl => ?_)
          have ct65 : ∀ (z8 : Bool), z8 = x.testBit (b i % 32) → W p l e (gx_rm 0 0) s m ([.ref (md 0), .int (nI nn), .int (nI 2), .int (nI wh)] : List Value).toArray below meth c s.heap [] 0 0 (MQ below (vp_Si (fun r => r = nI (mt_pf k a b (fun t => k t == 2 && Nat.testBit wh (mt_pl k t)) nn))) ([.ref (md 0), .int (nI nn), .int (nI 2), .int (nI wh)] : List Value).toArray s 0 0 (fun _ => False)) (F0 m 65 ls [.int (mt_b z8)]) := by
            intro z8 hcut65
            refine lv_istore (lv' := [(8, .int (mt_b z8)), (7, .int (mt_b z7)), (6, .int (nI 1)), (5, .int (nI i)), (4, .int (nI x)), (0, .ref (md 0)), (1, .int (nI nn)), (2, .int (nI 2)), (3, .int (nI wh))]) hx hb d_MM_rowOf_65 hl (by decide) rfl (fun ls hl => ?_)
            have hz7 := hcut42
            have hz8 := hcut65
            have hz9 := hz8
            refine lv_iload hx hb d_MM_rowOf_67 (lv_at hl 2 rfl) ?_
            refine lv_bipush (v := nI 6) hx hb d_MM_rowOf_69 (by decide) ?_
            refine lv_icmp_eq (tgt := 117) hx hb d_MM_rowOf_71 (by decide) (fun h9 => absurd h9 (by decide)) (fun _ => ?_)
            refine lv_iload hx hb d_MM_rowOf_74 (lv_at hl 2 rfl) ?_
            refine lv_iconst (v := nI 3) hx hb d_MM_rowOf_76 (by decide) ?_
            refine lv_icmp_ne (tgt := 90) hx hb d_MM_rowOf_77 (by decide) (fun _ => ?_) (fun h9 => absurd h9 (by decide))
            refine lv_iload hx hb d_MM_rowOf_90 (lv_at hl 2 rfl) ?_
            refine lv_iconst (v := nI 4) hx hb d_MM_rowOf_92 (by decide) ?_
            refine lv_icmp_ne (tgt := 106) hx hb d_MM_rowOf_93 (by decide) (fun _ => ?_) (fun h9 => absurd h9 (by decide))
            refine lv_iload hx hb d_MM_rowOf_106 (lv_at hl 2 rfl) ?_
            refine lv_iconst (v := nI 5) hx hb d_MM_rowOf_108 (by decide) ?_
            refine lv_icmp_ne (tgt := 121) hx hb d_MM_rowOf_109 (by decide) (fun _ => ?_) (fun h9 => absurd h9 (by decide))
            refine lv_iconst (v := nI 0) hx hb d_MM_rowOf_121 (by decide) ?_
            refine lv_istore (lv' := [(9, .int (nI 0)), (8, .int (mt_b z8)), (7, .int (mt_b z7)), (6, .int (nI 1)), (5, .int (nI i)), (4, .int (nI x)), (0, .ref (md 0)), (1, .int (nI nn)), (2, .int (nI 2)), (3, .int (nI wh))]) hx hb d_MM_rowOf_122 hl (by decide) rfl (fun ls hl => ?_)
            refine lv_iload hx hb d_MM_rowOf_124 (lv_at hl 0 rfl) ?_
            refine lv_if_ne (tgt := 205) hx hb d_MM_rowOf_126 (by decide) (fun h9 => absurd h9 (by decide)) (fun _ => ?_)
            refine lv_iload hx hb d_MM_rowOf_129 (lv_at hl 3 rfl) ?_
            refine lv_if_ne (tgt := 153) hx hb d_MM_rowOf_131 (by decide) (fun _ => ?_) (fun h9 => absurd h9 (by decide))
            refine lv_iload hx hb d_MM_rowOf_153 (lv_at hl 3 rfl) ?_
            refine lv_iconst (v := nI 1) hx hb d_MM_rowOf_155 (by decide) ?_
            refine lv_icmp_ne (tgt := 179) hx hb d_MM_rowOf_156 (by decide) (fun h9 => absurd h9 (by decide)) (fun _ => ?_)
            refine lv_iload_n hx hb d_MM_rowOf_159 rfl (lv_at hl 8 rfl) ?_
            refine lv_iconst (v := nI 1) hx hb d_MM_rowOf_160 (by decide) ?_
            refine lv_icmp_ne (tgt := 179) hx hb d_MM_rowOf_161 (by decide) (fun _ => ?_) (fun h9 => absurd h9 (by decide))
            refine lv_iload hx hb d_MM_rowOf_179 (lv_at hl 3 rfl) ?_
            refine lv_iconst (v := nI 2) hx hb d_MM_rowOf_181 (by decide) ?_
            refine lv_icmp_ne (tgt := 209) hx hb d_MM_rowOf_182 (by decide) (fun _ => ?_) (fun h9 => absurd h9 (by decide))
            refine lv_iconst (v := nI 0) hx hb d_MM_rowOf_209 (by decide) ?_
            refine lv_istore (lv' := [(9, .int (nI 0)), (8, .int (mt_b z8)), (7, .int (mt_b z7)), (6, .int (nI 1)), (5, .int (nI i)), (4, .int (nI x)), (0, .ref (md 0)), (1, .int (nI nn)), (2, .int (nI 2)), (3, .int (nI wh))]) hx hb d_MM_rowOf_210 hl (by decide) rfl (fun ls hl => ?_)
            refine lv_iload hx hb d_MM_rowOf_212 (lv_at hl 0 rfl) ?_
            refine lv_if_eq (tgt := 227) hx hb d_MM_rowOf_214 (by decide) (fun _ => ?_) (fun h9 => absurd h9 (by decide))
            refine lv_iload hx hb d_MM_rowOf_227 (lv_at hl 5 rfl) ?_
            refine lv_istore (lv' := [(4, .int (nI x)), (9, .int (nI 0)), (8, .int (mt_b z8)), (7, .int (mt_b z7)), (6, .int (nI 1)), (5, .int (nI i)), (0, .ref (md 0)), (1, .int (nI nn)), (2, .int (nI 2)), (3, .int (nI wh))]) hx hb d_MM_rowOf_229 hl (by decide) rfl (fun ls hl => ?_)
            refine lv_iinc (k := 5) (v := nI (i + 1)) (lv' := [(5, .int (nI (i + 1))), (4, .int (nI x)), (9, .int (nI 0)), (8, .int (mt_b z8)), (7, .int (mt_b z7)), (6, .int (nI 1)), (0, .ref (md 0)), (1, .int (nI nn)), (2, .int (nI 2)), (3, .int (nI wh))]) hx hb d_MM_rowOf_231 hl rfl (by rw [lit1]; exact nI_1 _) (by decide) rfl (fun ls hl => ?_)
            refine lv_goto (tgt := 6) hx hb d_MM_rowOf_234 (by decide) ?_
            exact ih6 _ (by omega) (i + 1) x ls rfl (by omega) (mt_pf_f hx9 (by simp [mt_in, hkv])) (lv_sub hl [0, 1, 6, 7, 8, 9] rfl)
          refine lv_iload hx hb d_MM_rowOf_44 (lv_at hl 3 rfl) ?_
          refine lv_aload_n hx hb d_MM_rowOf_46 rfl (lv_at hl 4 rfl) ?_
          refine va_get (D := g.1) (own := R_MM) (ref := R_MM) (ci := 5) (v := .ref (md 3)) (C := R_MM) (T := F_MM) (N := 16) hx hb hts in_MM hown hG.1 hP 0 rfl rfl 3 (by decide) (hts _ wd_386) (fun _ h9 => h9) rfl d_MM_rowOf_47 ?_
          refine lv_iload hx hb d_MM_rowOf_50 (lv_at hl 2 rfl) ?_
          refine va_iald hx hb hG.1 hP 3 0 rfl rfl (vp_in_nI (by omega) (by decide)) d_MM_rowOf_52 ?_
          refine mt_ri (y := nI (b i)) (by rw [nI_clamp (by omega)]; exact (hT _ (by omega)).2.2) ?_
          refine lv_ishr hx hb d_MM_rowOf_53 ?_
          refine lv_iconst (v := nI 1) hx hb d_MM_rowOf_54 (by decide) ?_
          refine lv_iand hx hb d_MM_rowOf_55 ?_
          refine mt_ri (y := mt_b (Nat.testBit x ((b i) % 32))) (mt_bit32 (by omega) (by omega)) ?_
          refine lv_iconst (v := nI 1) hx hb d_MM_rowOf_56 (by decide) ?_
          refine lv_icmp_ne (tgt := 64) hx hb d_MM_rowOf_57 (by decide) (mt_nb1 fun hc57 => ?_) (mt_b1 fun hc57 => ?_)
          · ---- 9F k1 57T
            refine lv_iconst (v := nI 0) hx hb d_MM_rowOf_64 (by decide) ?_
            exact ct65 false (hc57.symm)
          · ---- 9F k1 57F
            refine lv_iconst (v := nI 1) hx hb d_MM_rowOf_60 (by decide) ?_
            refine lv_goto (tgt := 65) hx hb d_MM_rowOf_61 (by decide) ?_
            exact ct65 true (hc57.symm)
        refine lv_iload hx hb d_MM_rowOf_21 (lv_at hl 2 rfl) ?_
        refine lv_aload_n hx hb d_MM_rowOf_23 rfl (lv_at hl 3 rfl) ?_
        refine va_get (D := g.1) (own := R_MM) (ref := R_MM) (ci := 5) (v := .ref (md 2)) (C := R_MM) (T := F_MM) (N := 16) hx hb hts in_MM hown hG.1 hP 0 rfl rfl 2 (by decide) (hts _ wd_385) (fun _ h9 => h9) rfl d_MM_rowOf_24 ?_
        refine lv_iload hx hb d_MM_rowOf_27 (lv_at hl 1 rfl) ?_
        refine va_iald hx hb hG.1 hP 2 0 rfl rfl (vp_in_nI (by omega) (by decide)) d_MM_rowOf_29 ?_
        refine mt_ri (y := nI (a i)) (by rw [nI_clamp (by omega)]; exact (hT _ (by omega)).2.1) ?_
        refine lv_ishr hx hb d_MM_rowOf_30 ?_
        refine lv_iconst (v := nI 1) hx hb d_MM_rowOf_31 (by decide) ?_
        refine lv_iand hx hb d_MM_rowOf_32 ?_
        refine mt_ri (y := mt_b (Nat.testBit x ((a i) % 32))) (mt_bit32 (by omega) (by omega)) ?_
        refine lv_iconst (v := nI 1) hx hb d_MM_rowOf_33 (by decide) ?_
        refine lv_icmp_ne (tgt := 41) hx hb d_MM_rowOf_34 (by decide) (mt_nb1 fun hc34 => ?_) (mt_b1 fun hc34 => ?_)
        · ---- 9F k1 34T
          refine lv_iconst (v := nI 0) hx hb d_MM_rowOf_41 (by decide) ?_
          exact ct42 false (hc34.symm)
        · ---- 9F k1 34F
          refine lv_iconst (v := nI 1) hx hb d_MM_rowOf_37 (by decide) ?_
          refine lv_goto (tgt := 42) hx hb d_MM_rowOf_38 (by decide) ?_
          exact ct42 true (hc34.symm)
      · ---- 9F k2
        refine mt_ri (y := nI 2) (by rw [hkv]) ?_
        refine lv_istore (lv' := [(6, .int (nI 2)), (5, .int (nI i)), (4, .int (nI x)), (0, .ref (md 0)), (1, .int (nI nn)), (2, .int (nI 2)), (3, .int (nI wh))]) hx hb d_MM_rowOf_19 hl (by decide) rfl (fun ls hl => ?_)
        have ct42 : ∀ (z7 : Bool), z7 = x.testBit (a i % 32) → W p l e (gx_rm 0 0) s m ([.ref (md 0), .int (nI nn), .int (nI 2), .int (nI wh)] : List Value).toArray below meth c s.heap [] 0 0 (MQ below (vp_Si (fun r => r = nI (mt_pf k a b (fun t => k t == 2 && Nat.testBit wh (mt_pl k t)) nn))) ([.ref (md 0), .int (nI nn), .int (nI 2), .int (nI wh)] : List Value).toArray s 0 0 (fun _ => False)) (F0 m 42 ls [.int (mt_b z7)]) := by
          intro z7 hcut42
          refine lv_istore (lv' := [(7, .int (mt_b z7)), (6, .int (nI 2)), (5, .int (nI i)), (4, .int (nI x)), (0, .ref (md 0)), (1, .int (nI nn)), (2, .int (nI 2)), (3, .int (nI wh))]) hx hb d_MM_rowOf_42 hl (by decide) rfl (fun ls hl => ?_)
          have ct65 : ∀ (z8 : Bool), z8 = x.testBit (b i % 32) → W p l e (gx_rm 0 0) s m ([.ref (md 0), .int (nI nn), .int (nI 2), .int (nI wh)] : List Value).toArray below meth c s.heap [] 0 0 (MQ below (vp_Si (fun r => r = nI (mt_pf k a b (fun t => k t == 2 && Nat.testBit wh (mt_pl k t)) nn))) ([.ref (md 0), .int (nI nn), .int (nI 2), .int (nI wh)] : List Value).toArray s 0 0 (fun _ => False)) (F0 m 65 ls [.int (mt_b z8)]) := by
            intro z8 hcut65
            refine lv_istore (lv' := [(8, .int (mt_b z8)), (7, .int (mt_b z7)), (6, .int (nI 2)), (5, .int (nI i)), (4, .int (nI x)), (0, .ref (md 0)), (1, .int (nI nn)), (2, .int (nI 2)), (3, .int (nI wh))]) hx hb d_MM_rowOf_65 hl (by decide) rfl (fun ls hl => ?_)
            have hz7 := hcut42
            have hz8 := hcut65
            have hz9 := hz8
            refine lv_iload hx hb d_MM_rowOf_67 (lv_at hl 2 rfl) ?_
            refine lv_bipush (v := nI 6) hx hb d_MM_rowOf_69 (by decide) ?_
            refine lv_icmp_eq (tgt := 117) hx hb d_MM_rowOf_71 (by decide) (fun h9 => absurd h9 (by decide)) (fun _ => ?_)
            refine lv_iload hx hb d_MM_rowOf_74 (lv_at hl 2 rfl) ?_
            refine lv_iconst (v := nI 3) hx hb d_MM_rowOf_76 (by decide) ?_
            refine lv_icmp_ne (tgt := 90) hx hb d_MM_rowOf_77 (by decide) (fun _ => ?_) (fun h9 => absurd h9 (by decide))
            refine lv_iload hx hb d_MM_rowOf_90 (lv_at hl 2 rfl) ?_
            refine lv_iconst (v := nI 4) hx hb d_MM_rowOf_92 (by decide) ?_
            refine lv_icmp_ne (tgt := 106) hx hb d_MM_rowOf_93 (by decide) (fun _ => ?_) (fun h9 => absurd h9 (by decide))
            refine lv_iload hx hb d_MM_rowOf_106 (lv_at hl 2 rfl) ?_
            refine lv_iconst (v := nI 5) hx hb d_MM_rowOf_108 (by decide) ?_
            refine lv_icmp_ne (tgt := 121) hx hb d_MM_rowOf_109 (by decide) (fun _ => ?_) (fun h9 => absurd h9 (by decide))
            refine lv_iconst (v := nI 0) hx hb d_MM_rowOf_121 (by decide) ?_
            refine lv_istore (lv' := [(9, .int (nI 0)), (8, .int (mt_b z8)), (7, .int (mt_b z7)), (6, .int (nI 2)), (5, .int (nI i)), (4, .int (nI x)), (0, .ref (md 0)), (1, .int (nI nn)), (2, .int (nI 2)), (3, .int (nI wh))]) hx hb d_MM_rowOf_122 hl (by decide) rfl (fun ls hl => ?_)
            refine lv_iload hx hb d_MM_rowOf_124 (lv_at hl 0 rfl) ?_
            refine lv_if_ne (tgt := 205) hx hb d_MM_rowOf_126 (by decide) (fun h9 => absurd h9 (by decide)) (fun _ => ?_)
            refine lv_iload hx hb d_MM_rowOf_129 (lv_at hl 3 rfl) ?_
            refine lv_if_ne (tgt := 153) hx hb d_MM_rowOf_131 (by decide) (fun _ => ?_) (fun h9 => absurd h9 (by decide))
            refine lv_iload hx hb d_MM_rowOf_153 (lv_at hl 3 rfl) ?_
            refine lv_iconst (v := nI 1) hx hb d_MM_rowOf_155 (by decide) ?_
            refine lv_icmp_ne (tgt := 179) hx hb d_MM_rowOf_156 (by decide) (fun _ => ?_) (fun h9 => absurd h9 (by decide))
            refine lv_iload hx hb d_MM_rowOf_179 (lv_at hl 3 rfl) ?_
            refine lv_iconst (v := nI 2) hx hb d_MM_rowOf_181 (by decide) ?_
            refine lv_icmp_ne (tgt := 209) hx hb d_MM_rowOf_182 (by decide) (fun h9 => absurd h9 (by decide)) (fun _ => ?_)
            refine lv_iload_n hx hb d_MM_rowOf_185 rfl (lv_at hl 8 rfl) ?_
            refine lv_iconst (v := nI 2) hx hb d_MM_rowOf_186 (by decide) ?_
            refine lv_icmp_ne (tgt := 209) hx hb d_MM_rowOf_187 (by decide) (fun h9 => absurd h9 (by decide)) (fun _ => ?_)
            refine lv_iload_n hx hb d_MM_rowOf_190 rfl (lv_at hl 9 rfl) ?_
            refine lv_aload_n hx hb d_MM_rowOf_191 rfl (lv_at hl 6 rfl) ?_
            refine va_get (D := g.1) (own := R_MM) (ref := R_MM) (ci := 5) (v := .ref (md 11)) (C := R_MM) (T := F_MM) (N := 16) hx hb hts in_MM hown hG.1 hP 0 rfl rfl 15 (by decide) (hts _ wd_398) (fun _ h9 => h9) rfl d_MM_rowOf_192 ?_
            refine lv_iload hx hb d_MM_rowOf_195 (lv_at hl 4 rfl) ?_
            refine va_iald hx hb hG.1 hP 11 0 rfl rfl (vp_in_nI (by omega) (by decide)) d_MM_rowOf_197 ?_
            refine mt_ri (y := nI (mt_pl k i)) (by rw [nI_clamp (by omega)]; exact (hN.2.2 _ (by omega))) ?_
            refine lv_ishr hx hb d_MM_rowOf_198 ?_
            refine lv_iconst (v := nI 1) hx hb d_MM_rowOf_199 (by decide) ?_
            refine lv_iand hx hb d_MM_rowOf_200 ?_
            refine mt_ri (y := mt_b (Nat.testBit wh (mt_pl k i))) (mt_bit1 (by omega) (by omega)) ?_
            refine lv_iconst (v := nI 1) hx hb d_MM_rowOf_201 (by decide) ?_
            refine lv_icmp_ne (tgt := 209) hx hb d_MM_rowOf_202 (by decide) (mt_nb1 fun hc202 => ?_) (mt_b1 fun hc202 => ?_)
            · ---- 9F k2 202T
              refine lv_iconst (v := nI 0) hx hb d_MM_rowOf_209 (by decide) ?_
              refine lv_istore (lv' := [(9, .int (nI 0)), (8, .int (mt_b z8)), (7, .int (mt_b z7)), (6, .int (nI 2)), (5, .int (nI i)), (4, .int (nI x)), (0, .ref (md 0)), (1, .int (nI nn)), (2, .int (nI 2)), (3, .int (nI wh))]) hx hb d_MM_rowOf_210 hl (by decide) rfl (fun ls hl => ?_)
              refine lv_iload hx hb d_MM_rowOf_212 (lv_at hl 0 rfl) ?_
              refine lv_if_eq (tgt := 227) hx hb d_MM_rowOf_214 (by decide) (fun _ => ?_) (fun h9 => absurd h9 (by decide))
              refine lv_iload hx hb d_MM_rowOf_227 (lv_at hl 5 rfl) ?_
              refine lv_istore (lv' := [(4, .int (nI x)), (9, .int (nI 0)), (8, .int (mt_b z8)), (7, .int (mt_b z7)), (6, .int (nI 2)), (5, .int (nI i)), (0, .ref (md 0)), (1, .int (nI nn)), (2, .int (nI 2)), (3, .int (nI wh))]) hx hb d_MM_rowOf_229 hl (by decide) rfl (fun ls hl => ?_)
              refine lv_iinc (k := 5) (v := nI (i + 1)) (lv' := [(5, .int (nI (i + 1))), (4, .int (nI x)), (9, .int (nI 0)), (8, .int (mt_b z8)), (7, .int (mt_b z7)), (6, .int (nI 2)), (0, .ref (md 0)), (1, .int (nI nn)), (2, .int (nI 2)), (3, .int (nI wh))]) hx hb d_MM_rowOf_231 hl rfl (by rw [lit1]; exact nI_1 _) (by decide) rfl (fun ls hl => ?_)
              refine lv_goto (tgt := 6) hx hb d_MM_rowOf_234 (by decide) ?_
              exact ih6 _ (by omega) (i + 1) x ls rfl (by omega) (mt_pf_f hx9 (by simp [mt_in, hkv, hc202])) (lv_sub hl [0, 1, 6, 7, 8, 9] rfl)
            · ---- 9F k2 202F
              refine lv_iconst (v := nI 1) hx hb d_MM_rowOf_205 (by decide) ?_
              refine lv_goto (tgt := 210) hx hb d_MM_rowOf_206 (by decide) ?_
              refine lv_istore (lv' := [(9, .int (nI 1)), (8, .int (mt_b z8)), (7, .int (mt_b z7)), (6, .int (nI 2)), (5, .int (nI i)), (4, .int (nI x)), (0, .ref (md 0)), (1, .int (nI nn)), (2, .int (nI 2)), (3, .int (nI wh))]) hx hb d_MM_rowOf_210 hl (by decide) rfl (fun ls hl => ?_)
              refine lv_iload hx hb d_MM_rowOf_212 (lv_at hl 0 rfl) ?_
              refine lv_if_eq (tgt := 227) hx hb d_MM_rowOf_214 (by decide) (fun h9 => absurd h9 (by decide)) (fun _ => ?_)
              refine lv_iload hx hb d_MM_rowOf_217 (lv_at hl 5 rfl) ?_
              refine lv_iconst (v := nI 1) hx hb d_MM_rowOf_219 (by decide) ?_
              refine lv_iload hx hb d_MM_rowOf_220 (lv_at hl 4 rfl) ?_
              refine lv_ishl hx hb d_MM_rowOf_222 ?_
              refine mt_ri (y := nI (2 ^ i)) (mt_shl (by omega)) ?_
              refine lv_ior hx hb d_MM_rowOf_223 ?_
              refine mt_ri (y := nI (x ||| (2 ^ i))) (mt_or _ _) ?_
              refine lv_goto (tgt := 229) hx hb d_MM_rowOf_224 (by decide) ?_
              refine lv_istore (lv' := [(4, .int (nI (x ||| (2 ^ i)))), (9, .int (nI 1)), (8, .int (mt_b z8)), (7, .int (mt_b z7)), (6, .int (nI 2)), (5, .int (nI i)), (0, .ref (md 0)), (1, .int (nI nn)), (2, .int (nI 2)), (3, .int (nI wh))]) hx hb d_MM_rowOf_229 hl (by decide) rfl (fun ls hl => ?_)
              refine lv_iinc (k := 5) (v := nI (i + 1)) (lv' := [(5, .int (nI (i + 1))), (4, .int (nI (x ||| (2 ^ i)))), (9, .int (nI 1)), (8, .int (mt_b z8)), (7, .int (mt_b z7)), (6, .int (nI 2)), (0, .ref (md 0)), (1, .int (nI nn)), (2, .int (nI 2)), (3, .int (nI wh))]) hx hb d_MM_rowOf_231 hl rfl (by rw [lit1]; exact nI_1 _) (by decide) rfl (fun ls hl => ?_)
              refine lv_goto (tgt := 6) hx hb d_MM_rowOf_234 (by decide) ?_
              exact ih6 _ (by omega) (i + 1) (x ||| (2 ^ i)) ls rfl (by omega) (mt_pf_t hx9 (by simp [mt_in, hkv, hc202])) (lv_sub hl [0, 1, 6, 7, 8, 9] rfl)
          refine lv_iload hx hb d_MM_rowOf_44 (lv_at hl 3 rfl) ?_
          refine lv_aload_n hx hb d_MM_rowOf_46 rfl (lv_at hl 4 rfl) ?_
          refine va_get (D := g.1) (own := R_MM) (ref := R_MM) (ci := 5) (v := .ref (md 3)) (C := R_MM) (T := F_MM) (N := 16) hx hb hts in_MM hown hG.1 hP 0 rfl rfl 3 (by decide) (hts _ wd_386) (fun _ h9 => h9) rfl d_MM_rowOf_47 ?_
          refine lv_iload hx hb d_MM_rowOf_50 (lv_at hl 2 rfl) ?_
          refine va_iald hx hb hG.1 hP 3 0 rfl rfl (vp_in_nI (by omega) (by decide)) d_MM_rowOf_52 ?_
          refine mt_ri (y := nI (b i)) (by rw [nI_clamp (by omega)]; exact (hT _ (by omega)).2.2) ?_
          refine lv_ishr hx hb d_MM_rowOf_53 ?_
          refine lv_iconst (v := nI 1) hx hb d_MM_rowOf_54 (by decide) ?_
          refine lv_iand hx hb d_MM_rowOf_55 ?_
          refine mt_ri (y := mt_b (Nat.testBit x ((b i) % 32))) (mt_bit32 (by omega) (by omega)) ?_
          refine lv_iconst (v := nI 1) hx hb d_MM_rowOf_56 (by decide) ?_
          refine lv_icmp_ne (tgt := 64) hx hb d_MM_rowOf_57 (by decide) (mt_nb1 fun hc57 => ?_) (mt_b1 fun hc57 => ?_)
          · ---- 9F k2 57T
            refine lv_iconst (v := nI 0) hx hb d_MM_rowOf_64 (by decide) ?_
            exact ct65 false (hc57.symm)
          · ---- 9F k2 57F
            refine lv_iconst (v := nI 1) hx hb d_MM_rowOf_60 (by decide) ?_
            refine lv_goto (tgt := 65) hx hb d_MM_rowOf_61 (by decide) ?_
            exact ct65 true (hc57.symm)
        refine lv_iload hx hb d_MM_rowOf_21 (lv_at hl 2 rfl) ?_
        refine lv_aload_n hx hb d_MM_rowOf_23 rfl (lv_at hl 3 rfl) ?_
        refine va_get (D := g.1) (own := R_MM) (ref := R_MM) (ci := 5) (v := .ref (md 2)) (C := R_MM) (T := F_MM) (N := 16) hx hb hts in_MM hown hG.1 hP 0 rfl rfl 2 (by decide) (hts _ wd_385) (fun _ h9 => h9) rfl d_MM_rowOf_24 ?_
        refine lv_iload hx hb d_MM_rowOf_27 (lv_at hl 1 rfl) ?_
        refine va_iald hx hb hG.1 hP 2 0 rfl rfl (vp_in_nI (by omega) (by decide)) d_MM_rowOf_29 ?_
        refine mt_ri (y := nI (a i)) (by rw [nI_clamp (by omega)]; exact (hT _ (by omega)).2.1) ?_
        refine lv_ishr hx hb d_MM_rowOf_30 ?_
        refine lv_iconst (v := nI 1) hx hb d_MM_rowOf_31 (by decide) ?_
        refine lv_iand hx hb d_MM_rowOf_32 ?_
        refine mt_ri (y := mt_b (Nat.testBit x ((a i) % 32))) (mt_bit32 (by omega) (by omega)) ?_
        refine lv_iconst (v := nI 1) hx hb d_MM_rowOf_33 (by decide) ?_
        refine lv_icmp_ne (tgt := 41) hx hb d_MM_rowOf_34 (by decide) (mt_nb1 fun hc34 => ?_) (mt_b1 fun hc34 => ?_)
        · ---- 9F k2 34T
          refine lv_iconst (v := nI 0) hx hb d_MM_rowOf_41 (by decide) ?_
          exact ct42 false (hc34.symm)
        · ---- 9F k2 34F
          refine lv_iconst (v := nI 1) hx hb d_MM_rowOf_37 (by decide) ?_
          refine lv_goto (tgt := 42) hx hb d_MM_rowOf_38 (by decide) ?_
          exact ct42 true (hc34.symm)
      · ---- 9F k3
        refine mt_ri (y := nI 3) (by rw [hkv]) ?_
        refine lv_istore (lv' := [(6, .int (nI 3)), (5, .int (nI i)), (4, .int (nI x)), (0, .ref (md 0)), (1, .int (nI nn)), (2, .int (nI 2)), (3, .int (nI wh))]) hx hb d_MM_rowOf_19 hl (by decide) rfl (fun ls hl => ?_)
        have ct42 : ∀ (z7 : Bool), z7 = x.testBit (a i % 32) → W p l e (gx_rm 0 0) s m ([.ref (md 0), .int (nI nn), .int (nI 2), .int (nI wh)] : List Value).toArray below meth c s.heap [] 0 0 (MQ below (vp_Si (fun r => r = nI (mt_pf k a b (fun t => k t == 2 && Nat.testBit wh (mt_pl k t)) nn))) ([.ref (md 0), .int (nI nn), .int (nI 2), .int (nI wh)] : List Value).toArray s 0 0 (fun _ => False)) (F0 m 42 ls [.int (mt_b z7)]) := by
          intro z7 hcut42
          refine lv_istore (lv' := [(7, .int (mt_b z7)), (6, .int (nI 3)), (5, .int (nI i)), (4, .int (nI x)), (0, .ref (md 0)), (1, .int (nI nn)), (2, .int (nI 2)), (3, .int (nI wh))]) hx hb d_MM_rowOf_42 hl (by decide) rfl (fun ls hl => ?_)
          have ct65 : ∀ (z8 : Bool), z8 = x.testBit (b i % 32) → W p l e (gx_rm 0 0) s m ([.ref (md 0), .int (nI nn), .int (nI 2), .int (nI wh)] : List Value).toArray below meth c s.heap [] 0 0 (MQ below (vp_Si (fun r => r = nI (mt_pf k a b (fun t => k t == 2 && Nat.testBit wh (mt_pl k t)) nn))) ([.ref (md 0), .int (nI nn), .int (nI 2), .int (nI wh)] : List Value).toArray s 0 0 (fun _ => False)) (F0 m 65 ls [.int (mt_b z8)]) := by
            intro z8 hcut65
            refine lv_istore (lv' := [(8, .int (mt_b z8)), (7, .int (mt_b z7)), (6, .int (nI 3)), (5, .int (nI i)), (4, .int (nI x)), (0, .ref (md 0)), (1, .int (nI nn)), (2, .int (nI 2)), (3, .int (nI wh))]) hx hb d_MM_rowOf_65 hl (by decide) rfl (fun ls hl => ?_)
            have hz7 := hcut42
            have hz8 := hcut65
            have hz9 := hz8
            refine lv_iload hx hb d_MM_rowOf_67 (lv_at hl 2 rfl) ?_
            refine lv_bipush (v := nI 6) hx hb d_MM_rowOf_69 (by decide) ?_
            refine lv_icmp_eq (tgt := 117) hx hb d_MM_rowOf_71 (by decide) (fun h9 => absurd h9 (by decide)) (fun _ => ?_)
            refine lv_iload hx hb d_MM_rowOf_74 (lv_at hl 2 rfl) ?_
            refine lv_iconst (v := nI 3) hx hb d_MM_rowOf_76 (by decide) ?_
            refine lv_icmp_ne (tgt := 90) hx hb d_MM_rowOf_77 (by decide) (fun h9 => absurd h9 (by decide)) (fun _ => ?_)
            refine lv_iload hx hb d_MM_rowOf_80 (lv_at hl 1 rfl) ?_
            refine lv_if_ne (tgt := 117) hx hb d_MM_rowOf_82 (by decide) (mt_nz fun hc82 => ?_) (mt_z fun hc82 => ?_)
            · ---- 9F k3 82T
              refine lv_iconst (v := nI 1) hx hb d_MM_rowOf_117 (by decide) ?_
              refine lv_goto (tgt := 122) hx hb d_MM_rowOf_118 (by decide) ?_
              refine lv_istore (lv' := [(9, .int (nI 1)), (8, .int (mt_b z8)), (7, .int (mt_b z7)), (6, .int (nI 3)), (5, .int (nI i)), (4, .int (nI x)), (0, .ref (md 0)), (1, .int (nI nn)), (2, .int (nI 2)), (3, .int (nI wh))]) hx hb d_MM_rowOf_122 hl (by decide) rfl (fun ls hl => ?_)
              refine lv_iload hx hb d_MM_rowOf_124 (lv_at hl 0 rfl) ?_
              refine lv_if_ne (tgt := 205) hx hb d_MM_rowOf_126 (by decide) (fun _ => ?_) (fun h9 => absurd h9 (by decide))
              refine lv_iconst (v := nI 1) hx hb d_MM_rowOf_205 (by decide) ?_
              refine lv_goto (tgt := 210) hx hb d_MM_rowOf_206 (by decide) ?_
              refine lv_istore (lv' := [(9, .int (nI 1)), (8, .int (mt_b z8)), (7, .int (mt_b z7)), (6, .int (nI 3)), (5, .int (nI i)), (4, .int (nI x)), (0, .ref (md 0)), (1, .int (nI nn)), (2, .int (nI 2)), (3, .int (nI wh))]) hx hb d_MM_rowOf_210 hl (by decide) rfl (fun ls hl => ?_)
              refine lv_iload hx hb d_MM_rowOf_212 (lv_at hl 0 rfl) ?_
              refine lv_if_eq (tgt := 227) hx hb d_MM_rowOf_214 (by decide) (fun h9 => absurd h9 (by decide)) (fun _ => ?_)
              refine lv_iload hx hb d_MM_rowOf_217 (lv_at hl 5 rfl) ?_
              refine lv_iconst (v := nI 1) hx hb d_MM_rowOf_219 (by decide) ?_
              refine lv_iload hx hb d_MM_rowOf_220 (lv_at hl 4 rfl) ?_
              refine lv_ishl hx hb d_MM_rowOf_222 ?_
              refine mt_ri (y := nI (2 ^ i)) (mt_shl (by omega)) ?_
              refine lv_ior hx hb d_MM_rowOf_223 ?_
              refine mt_ri (y := nI (x ||| (2 ^ i))) (mt_or _ _) ?_
              refine lv_goto (tgt := 229) hx hb d_MM_rowOf_224 (by decide) ?_
              refine lv_istore (lv' := [(4, .int (nI (x ||| (2 ^ i)))), (9, .int (nI 1)), (8, .int (mt_b z8)), (7, .int (mt_b z7)), (6, .int (nI 3)), (5, .int (nI i)), (0, .ref (md 0)), (1, .int (nI nn)), (2, .int (nI 2)), (3, .int (nI wh))]) hx hb d_MM_rowOf_229 hl (by decide) rfl (fun ls hl => ?_)
              refine lv_iinc (k := 5) (v := nI (i + 1)) (lv' := [(5, .int (nI (i + 1))), (4, .int (nI (x ||| (2 ^ i)))), (9, .int (nI 1)), (8, .int (mt_b z8)), (7, .int (mt_b z7)), (6, .int (nI 3)), (0, .ref (md 0)), (1, .int (nI nn)), (2, .int (nI 2)), (3, .int (nI wh))]) hx hb d_MM_rowOf_231 hl rfl (by rw [lit1]; exact nI_1 _) (by decide) rfl (fun ls hl => ?_)
              refine lv_goto (tgt := 6) hx hb d_MM_rowOf_234 (by decide) ?_
              exact ih6 _ (by omega) (i + 1) (x ||| (2 ^ i)) ls rfl (by omega) (mt_pf_t hx9 (by rw [Nat.mod_eq_of_lt (by have := (hw i (by omega)).2.1 (by omega) (by omega); omega)] at hz7 hz8; simp [mt_in, hkv, ← hz7, ← hz8, hc82])) (lv_sub hl [0, 1, 6, 7, 8, 9] rfl)
            · ---- 9F k3 82F
              refine lv_iload hx hb d_MM_rowOf_85 (lv_at hl 0 rfl) ?_
              refine lv_if_ne (tgt := 117) hx hb d_MM_rowOf_87 (by decide) (mt_nz fun hc87 => ?_) (mt_z fun hc87 => ?_)
              · ---- 9F k3 82F 87T
                refine lv_iconst (v := nI 1) hx hb d_MM_rowOf_117 (by decide) ?_
                refine lv_goto (tgt := 122) hx hb d_MM_rowOf_118 (by decide) ?_
                refine lv_istore (lv' := [(9, .int (nI 1)), (8, .int (mt_b z8)), (7, .int (mt_b z7)), (6, .int (nI 3)), (5, .int (nI i)), (4, .int (nI x)), (0, .ref (md 0)), (1, .int (nI nn)), (2, .int (nI 2)), (3, .int (nI wh))]) hx hb d_MM_rowOf_122 hl (by decide) rfl (fun ls hl => ?_)
                refine lv_iload hx hb d_MM_rowOf_124 (lv_at hl 0 rfl) ?_
                refine lv_if_ne (tgt := 205) hx hb d_MM_rowOf_126 (by decide) (fun _ => ?_) (fun h9 => absurd h9 (by decide))
                refine lv_iconst (v := nI 1) hx hb d_MM_rowOf_205 (by decide) ?_
                refine lv_goto (tgt := 210) hx hb d_MM_rowOf_206 (by decide) ?_
                refine lv_istore (lv' := [(9, .int (nI 1)), (8, .int (mt_b z8)), (7, .int (mt_b z7)), (6, .int (nI 3)), (5, .int (nI i)), (4, .int (nI x)), (0, .ref (md 0)), (1, .int (nI nn)), (2, .int (nI 2)), (3, .int (nI wh))]) hx hb d_MM_rowOf_210 hl (by decide) rfl (fun ls hl => ?_)
                refine lv_iload hx hb d_MM_rowOf_212 (lv_at hl 0 rfl) ?_
                refine lv_if_eq (tgt := 227) hx hb d_MM_rowOf_214 (by decide) (fun h9 => absurd h9 (by decide)) (fun _ => ?_)
                refine lv_iload hx hb d_MM_rowOf_217 (lv_at hl 5 rfl) ?_
                refine lv_iconst (v := nI 1) hx hb d_MM_rowOf_219 (by decide) ?_
                refine lv_iload hx hb d_MM_rowOf_220 (lv_at hl 4 rfl) ?_
                refine lv_ishl hx hb d_MM_rowOf_222 ?_
                refine mt_ri (y := nI (2 ^ i)) (mt_shl (by omega)) ?_
                refine lv_ior hx hb d_MM_rowOf_223 ?_
                refine mt_ri (y := nI (x ||| (2 ^ i))) (mt_or _ _) ?_
                refine lv_goto (tgt := 229) hx hb d_MM_rowOf_224 (by decide) ?_
                refine lv_istore (lv' := [(4, .int (nI (x ||| (2 ^ i)))), (9, .int (nI 1)), (8, .int (mt_b z8)), (7, .int (mt_b z7)), (6, .int (nI 3)), (5, .int (nI i)), (0, .ref (md 0)), (1, .int (nI nn)), (2, .int (nI 2)), (3, .int (nI wh))]) hx hb d_MM_rowOf_229 hl (by decide) rfl (fun ls hl => ?_)
                refine lv_iinc (k := 5) (v := nI (i + 1)) (lv' := [(5, .int (nI (i + 1))), (4, .int (nI (x ||| (2 ^ i)))), (9, .int (nI 1)), (8, .int (mt_b z8)), (7, .int (mt_b z7)), (6, .int (nI 3)), (0, .ref (md 0)), (1, .int (nI nn)), (2, .int (nI 2)), (3, .int (nI wh))]) hx hb d_MM_rowOf_231 hl rfl (by rw [lit1]; exact nI_1 _) (by decide) rfl (fun ls hl => ?_)
                refine lv_goto (tgt := 6) hx hb d_MM_rowOf_234 (by decide) ?_
                exact ih6 _ (by omega) (i + 1) (x ||| (2 ^ i)) ls rfl (by omega) (mt_pf_t hx9 (by rw [Nat.mod_eq_of_lt (by have := (hw i (by omega)).2.1 (by omega) (by omega); omega)] at hz7 hz8; simp [mt_in, hkv, ← hz7, ← hz8, hc82, hc87])) (lv_sub hl [0, 1, 6, 7, 8, 9] rfl)
              · ---- 9F k3 82F 87F
                refine lv_iload hx hb d_MM_rowOf_90 (lv_at hl 2 rfl) ?_
                refine lv_iconst (v := nI 4) hx hb d_MM_rowOf_92 (by decide) ?_
                refine lv_icmp_ne (tgt := 106) hx hb d_MM_rowOf_93 (by decide) (fun _ => ?_) (fun h9 => absurd h9 (by decide))
                refine lv_iload hx hb d_MM_rowOf_106 (lv_at hl 2 rfl) ?_
                refine lv_iconst (v := nI 5) hx hb d_MM_rowOf_108 (by decide) ?_
                refine lv_icmp_ne (tgt := 121) hx hb d_MM_rowOf_109 (by decide) (fun _ => ?_) (fun h9 => absurd h9 (by decide))
                refine lv_iconst (v := nI 0) hx hb d_MM_rowOf_121 (by decide) ?_
                refine lv_istore (lv' := [(9, .int (nI 0)), (8, .int (mt_b z8)), (7, .int (mt_b z7)), (6, .int (nI 3)), (5, .int (nI i)), (4, .int (nI x)), (0, .ref (md 0)), (1, .int (nI nn)), (2, .int (nI 2)), (3, .int (nI wh))]) hx hb d_MM_rowOf_122 hl (by decide) rfl (fun ls hl => ?_)
                refine lv_iload hx hb d_MM_rowOf_124 (lv_at hl 0 rfl) ?_
                refine lv_if_ne (tgt := 205) hx hb d_MM_rowOf_126 (by decide) (fun h9 => absurd h9 (by decide)) (fun _ => ?_)
                refine lv_iload hx hb d_MM_rowOf_129 (lv_at hl 3 rfl) ?_
                refine lv_if_ne (tgt := 153) hx hb d_MM_rowOf_131 (by decide) (fun _ => ?_) (fun h9 => absurd h9 (by decide))
                refine lv_iload hx hb d_MM_rowOf_153 (lv_at hl 3 rfl) ?_
                refine lv_iconst (v := nI 1) hx hb d_MM_rowOf_155 (by decide) ?_
                refine lv_icmp_ne (tgt := 179) hx hb d_MM_rowOf_156 (by decide) (fun _ => ?_) (fun h9 => absurd h9 (by decide))
                refine lv_iload hx hb d_MM_rowOf_179 (lv_at hl 3 rfl) ?_
                refine lv_iconst (v := nI 2) hx hb d_MM_rowOf_181 (by decide) ?_
                refine lv_icmp_ne (tgt := 209) hx hb d_MM_rowOf_182 (by decide) (fun _ => ?_) (fun h9 => absurd h9 (by decide))
                refine lv_iconst (v := nI 0) hx hb d_MM_rowOf_209 (by decide) ?_
                refine lv_istore (lv' := [(9, .int (nI 0)), (8, .int (mt_b z8)), (7, .int (mt_b z7)), (6, .int (nI 3)), (5, .int (nI i)), (4, .int (nI x)), (0, .ref (md 0)), (1, .int (nI nn)), (2, .int (nI 2)), (3, .int (nI wh))]) hx hb d_MM_rowOf_210 hl (by decide) rfl (fun ls hl => ?_)
                refine lv_iload hx hb d_MM_rowOf_212 (lv_at hl 0 rfl) ?_
                refine lv_if_eq (tgt := 227) hx hb d_MM_rowOf_214 (by decide) (fun _ => ?_) (fun h9 => absurd h9 (by decide))
                refine lv_iload hx hb d_MM_rowOf_227 (lv_at hl 5 rfl) ?_
                refine lv_istore (lv' := [(4, .int (nI x)), (9, .int (nI 0)), (8, .int (mt_b z8)), (7, .int (mt_b z7)), (6, .int (nI 3)), (5, .int (nI i)), (0, .ref (md 0)), (1, .int (nI nn)), (2, .int (nI 2)), (3, .int (nI wh))]) hx hb d_MM_rowOf_229 hl (by decide) rfl (fun ls hl => ?_)
                refine lv_iinc (k := 5) (v := nI (i + 1)) (lv' := [(5, .int (nI (i + 1))), (4, .int (nI x)), (9, .int (nI 0)), (8, .int (mt_b z8)), (7, .int (mt_b z7)), (6, .int (nI 3)), (0, .ref (md 0)), (1, .int (nI nn)), (2, .int (nI 2)), (3, .int (nI wh))]) hx hb d_MM_rowOf_231 hl rfl (by rw [lit1]; exact nI_1 _) (by decide) rfl (fun ls hl => ?_)
                refine lv_goto (tgt := 6) hx hb d_MM_rowOf_234 (by decide) ?_
                exact ih6 _ (by omega) (i + 1) x ls rfl (by omega) (mt_pf_f hx9 (by rw [Nat.mod_eq_of_lt (by have := (hw i (by omega)).2.1 (by omega) (by omega); omega)] at hz7 hz8; simp [mt_in, hkv, ← hz7, ← hz8, hc82, hc87])) (lv_sub hl [0, 1, 6, 7, 8, 9] rfl)
          refine lv_iload hx hb d_MM_rowOf_44 (lv_at hl 3 rfl) ?_
          refine lv_aload_n hx hb d_MM_rowOf_46 rfl (lv_at hl 4 rfl) ?_
          refine va_get (D := g.1) (own := R_MM) (ref := R_MM) (ci := 5) (v := .ref (md 3)) (C := R_MM) (T := F_MM) (N := 16) hx hb hts in_MM hown hG.1 hP 0 rfl rfl 3 (by decide) (hts _ wd_386) (fun _ h9 => h9) rfl d_MM_rowOf_47 ?_
          refine lv_iload hx hb d_MM_rowOf_50 (lv_at hl 2 rfl) ?_
          refine va_iald hx hb hG.1 hP 3 0 rfl rfl (vp_in_nI (by omega) (by decide)) d_MM_rowOf_52 ?_
          refine mt_ri (y := nI (b i)) (by rw [nI_clamp (by omega)]; exact (hT _ (by omega)).2.2) ?_
          refine lv_ishr hx hb d_MM_rowOf_53 ?_
          refine lv_iconst (v := nI 1) hx hb d_MM_rowOf_54 (by decide) ?_
          refine lv_iand hx hb d_MM_rowOf_55 ?_
          refine mt_ri (y := mt_b (Nat.testBit x ((b i) % 32))) (mt_bit32 (by omega) (by omega)) ?_
          refine lv_iconst (v := nI 1) hx hb d_MM_rowOf_56 (by decide) ?_
          refine lv_icmp_ne (tgt := 64) hx hb d_MM_rowOf_57 (by decide) (mt_nb1 fun hc57 => ?_) (mt_b1 fun hc57 => ?_)
          · ---- 9F k3 57T
            refine lv_iconst (v := nI 0) hx hb d_MM_rowOf_64 (by decide) ?_
            exact ct65 false (hc57.symm)
          · ---- 9F k3 57F
            refine lv_iconst (v := nI 1) hx hb d_MM_rowOf_60 (by decide) ?_
            refine lv_goto (tgt := 65) hx hb d_MM_rowOf_61 (by decide) ?_
            exact ct65 true (hc57.symm)
        refine lv_iload hx hb d_MM_rowOf_21 (lv_at hl 2 rfl) ?_
        refine lv_aload_n hx hb d_MM_rowOf_23 rfl (lv_at hl 3 rfl) ?_
        refine va_get (D := g.1) (own := R_MM) (ref := R_MM) (ci := 5) (v := .ref (md 2)) (C := R_MM) (T := F_MM) (N := 16) hx hb hts in_MM hown hG.1 hP 0 rfl rfl 2 (by decide) (hts _ wd_385) (fun _ h9 => h9) rfl d_MM_rowOf_24 ?_
        refine lv_iload hx hb d_MM_rowOf_27 (lv_at hl 1 rfl) ?_
        refine va_iald hx hb hG.1 hP 2 0 rfl rfl (vp_in_nI (by omega) (by decide)) d_MM_rowOf_29 ?_
        refine mt_ri (y := nI (a i)) (by rw [nI_clamp (by omega)]; exact (hT _ (by omega)).2.1) ?_
        refine lv_ishr hx hb d_MM_rowOf_30 ?_
        refine lv_iconst (v := nI 1) hx hb d_MM_rowOf_31 (by decide) ?_
        refine lv_iand hx hb d_MM_rowOf_32 ?_
        refine mt_ri (y := mt_b (Nat.testBit x ((a i) % 32))) (mt_bit32 (by omega) (by omega)) ?_
        refine lv_iconst (v := nI 1) hx hb d_MM_rowOf_33 (by decide) ?_
        refine lv_icmp_ne (tgt := 41) hx hb d_MM_rowOf_34 (by decide) (mt_nb1 fun hc34 => ?_) (mt_b1 fun hc34 => ?_)
        · ---- 9F k3 34T
          refine lv_iconst (v := nI 0) hx hb d_MM_rowOf_41 (by decide) ?_
          exact ct42 false (hc34.symm)
        · ---- 9F k3 34F
          refine lv_iconst (v := nI 1) hx hb d_MM_rowOf_37 (by decide) ?_
          refine lv_goto (tgt := 42) hx hb d_MM_rowOf_38 (by decide) ?_
          exact ct42 true (hc34.symm)
      · ---- 9F k4
        refine mt_ri (y := nI 4) (by rw [hkv]) ?_
        refine lv_istore (lv' := [(6, .int (nI 4)), (5, .int (nI i)), (4, .int (nI x)), (0, .ref (md 0)), (1, .int (nI nn)), (2, .int (nI 2)), (3, .int (nI wh))]) hx hb d_MM_rowOf_19 hl (by decide) rfl (fun ls hl => ?_)
        have ct42 : ∀ (z7 : Bool), z7 = x.testBit (a i % 32) → W p l e (gx_rm 0 0) s m ([.ref (md 0), .int (nI nn), .int (nI 2), .int (nI wh)] : List Value).toArray below meth c s.heap [] 0 0 (MQ below (vp_Si (fun r => r = nI (mt_pf k a b (fun t => k t == 2 && Nat.testBit wh (mt_pl k t)) nn))) ([.ref (md 0), .int (nI nn), .int (nI 2), .int (nI wh)] : List Value).toArray s 0 0 (fun _ => False)) (F0 m 42 ls [.int (mt_b z7)]) := by
          intro z7 hcut42
          refine lv_istore (lv' := [(7, .int (mt_b z7)), (6, .int (nI 4)), (5, .int (nI i)), (4, .int (nI x)), (0, .ref (md 0)), (1, .int (nI nn)), (2, .int (nI 2)), (3, .int (nI wh))]) hx hb d_MM_rowOf_42 hl (by decide) rfl (fun ls hl => ?_)
          have ct65 : ∀ (z8 : Bool), z8 = x.testBit (b i % 32) → W p l e (gx_rm 0 0) s m ([.ref (md 0), .int (nI nn), .int (nI 2), .int (nI wh)] : List Value).toArray below meth c s.heap [] 0 0 (MQ below (vp_Si (fun r => r = nI (mt_pf k a b (fun t => k t == 2 && Nat.testBit wh (mt_pl k t)) nn))) ([.ref (md 0), .int (nI nn), .int (nI 2), .int (nI wh)] : List Value).toArray s 0 0 (fun _ => False)) (F0 m 65 ls [.int (mt_b z8)]) := by
            intro z8 hcut65
            refine lv_istore (lv' := [(8, .int (mt_b z8)), (7, .int (mt_b z7)), (6, .int (nI 4)), (5, .int (nI i)), (4, .int (nI x)), (0, .ref (md 0)), (1, .int (nI nn)), (2, .int (nI 2)), (3, .int (nI wh))]) hx hb d_MM_rowOf_65 hl (by decide) rfl (fun ls hl => ?_)
            have hz7 := hcut42
            have hz8 := hcut65
            have hz9 := hz8
            refine lv_iload hx hb d_MM_rowOf_67 (lv_at hl 2 rfl) ?_
            refine lv_bipush (v := nI 6) hx hb d_MM_rowOf_69 (by decide) ?_
            refine lv_icmp_eq (tgt := 117) hx hb d_MM_rowOf_71 (by decide) (fun h9 => absurd h9 (by decide)) (fun _ => ?_)
            refine lv_iload hx hb d_MM_rowOf_74 (lv_at hl 2 rfl) ?_
            refine lv_iconst (v := nI 3) hx hb d_MM_rowOf_76 (by decide) ?_
            refine lv_icmp_ne (tgt := 90) hx hb d_MM_rowOf_77 (by decide) (fun _ => ?_) (fun h9 => absurd h9 (by decide))
            refine lv_iload hx hb d_MM_rowOf_90 (lv_at hl 2 rfl) ?_
            refine lv_iconst (v := nI 4) hx hb d_MM_rowOf_92 (by decide) ?_
            refine lv_icmp_ne (tgt := 106) hx hb d_MM_rowOf_93 (by decide) (fun h9 => absurd h9 (by decide)) (fun _ => ?_)
            refine lv_iload hx hb d_MM_rowOf_96 (lv_at hl 1 rfl) ?_
            refine lv_if_eq (tgt := 106) hx hb d_MM_rowOf_98 (by decide) (mt_z fun hc98 => ?_) (mt_nz fun hc98 => ?_)
            · ---- 9F k4 98T
              refine lv_iload hx hb d_MM_rowOf_106 (lv_at hl 2 rfl) ?_
              refine lv_iconst (v := nI 5) hx hb d_MM_rowOf_108 (by decide) ?_
              refine lv_icmp_ne (tgt := 121) hx hb d_MM_rowOf_109 (by decide) (fun _ => ?_) (fun h9 => absurd h9 (by decide))
              refine lv_iconst (v := nI 0) hx hb d_MM_rowOf_121 (by decide) ?_
              refine lv_istore (lv' := [(9, .int (nI 0)), (8, .int (mt_b z8)), (7, .int (mt_b z7)), (6, .int (nI 4)), (5, .int (nI i)), (4, .int (nI x)), (0, .ref (md 0)), (1, .int (nI nn)), (2, .int (nI 2)), (3, .int (nI wh))]) hx hb d_MM_rowOf_122 hl (by decide) rfl (fun ls hl => ?_)
              refine lv_iload hx hb d_MM_rowOf_124 (lv_at hl 0 rfl) ?_
              refine lv_if_ne (tgt := 205) hx hb d_MM_rowOf_126 (by decide) (fun h9 => absurd h9 (by decide)) (fun _ => ?_)
              refine lv_iload hx hb d_MM_rowOf_129 (lv_at hl 3 rfl) ?_
              refine lv_if_ne (tgt := 153) hx hb d_MM_rowOf_131 (by decide) (fun _ => ?_) (fun h9 => absurd h9 (by decide))
              refine lv_iload hx hb d_MM_rowOf_153 (lv_at hl 3 rfl) ?_
              refine lv_iconst (v := nI 1) hx hb d_MM_rowOf_155 (by decide) ?_
              refine lv_icmp_ne (tgt := 179) hx hb d_MM_rowOf_156 (by decide) (fun _ => ?_) (fun h9 => absurd h9 (by decide))
              refine lv_iload hx hb d_MM_rowOf_179 (lv_at hl 3 rfl) ?_
              refine lv_iconst (v := nI 2) hx hb d_MM_rowOf_181 (by decide) ?_
              refine lv_icmp_ne (tgt := 209) hx hb d_MM_rowOf_182 (by decide) (fun _ => ?_) (fun h9 => absurd h9 (by decide))
              refine lv_iconst (v := nI 0) hx hb d_MM_rowOf_209 (by decide) ?_
              refine lv_istore (lv' := [(9, .int (nI 0)), (8, .int (mt_b z8)), (7, .int (mt_b z7)), (6, .int (nI 4)), (5, .int (nI i)), (4, .int (nI x)), (0, .ref (md 0)), (1, .int (nI nn)), (2, .int (nI 2)), (3, .int (nI wh))]) hx hb d_MM_rowOf_210 hl (by decide) rfl (fun ls hl => ?_)
              refine lv_iload hx hb d_MM_rowOf_212 (lv_at hl 0 rfl) ?_
              refine lv_if_eq (tgt := 227) hx hb d_MM_rowOf_214 (by decide) (fun _ => ?_) (fun h9 => absurd h9 (by decide))
              refine lv_iload hx hb d_MM_rowOf_227 (lv_at hl 5 rfl) ?_
              refine lv_istore (lv' := [(4, .int (nI x)), (9, .int (nI 0)), (8, .int (mt_b z8)), (7, .int (mt_b z7)), (6, .int (nI 4)), (5, .int (nI i)), (0, .ref (md 0)), (1, .int (nI nn)), (2, .int (nI 2)), (3, .int (nI wh))]) hx hb d_MM_rowOf_229 hl (by decide) rfl (fun ls hl => ?_)
              refine lv_iinc (k := 5) (v := nI (i + 1)) (lv' := [(5, .int (nI (i + 1))), (4, .int (nI x)), (9, .int (nI 0)), (8, .int (mt_b z8)), (7, .int (mt_b z7)), (6, .int (nI 4)), (0, .ref (md 0)), (1, .int (nI nn)), (2, .int (nI 2)), (3, .int (nI wh))]) hx hb d_MM_rowOf_231 hl rfl (by rw [lit1]; exact nI_1 _) (by decide) rfl (fun ls hl => ?_)
              refine lv_goto (tgt := 6) hx hb d_MM_rowOf_234 (by decide) ?_
              exact ih6 _ (by omega) (i + 1) x ls rfl (by omega) (mt_pf_f hx9 (by rw [Nat.mod_eq_of_lt (by have := (hw i (by omega)).2.1 (by omega) (by omega); omega)] at hz7 hz8; simp [mt_in, hkv, ← hz7, ← hz8, hc98])) (lv_sub hl [0, 1, 6, 7, 8, 9] rfl)
            · ---- 9F k4 98F
              refine lv_iload hx hb d_MM_rowOf_101 (lv_at hl 0 rfl) ?_
              refine lv_if_ne (tgt := 117) hx hb d_MM_rowOf_103 (by decide) (mt_nz fun hc103 => ?_) (mt_z fun hc103 => ?_)
              · ---- 9F k4 98F 103T
                refine lv_iconst (v := nI 1) hx hb d_MM_rowOf_117 (by decide) ?_
                refine lv_goto (tgt := 122) hx hb d_MM_rowOf_118 (by decide) ?_
                refine lv_istore (lv' := [(9, .int (nI 1)), (8, .int (mt_b z8)), (7, .int (mt_b z7)), (6, .int (nI 4)), (5, .int (nI i)), (4, .int (nI x)), (0, .ref (md 0)), (1, .int (nI nn)), (2, .int (nI 2)), (3, .int (nI wh))]) hx hb d_MM_rowOf_122 hl (by decide) rfl (fun ls hl => ?_)
                refine lv_iload hx hb d_MM_rowOf_124 (lv_at hl 0 rfl) ?_
                refine lv_if_ne (tgt := 205) hx hb d_MM_rowOf_126 (by decide) (fun _ => ?_) (fun h9 => absurd h9 (by decide))
                refine lv_iconst (v := nI 1) hx hb d_MM_rowOf_205 (by decide) ?_
                refine lv_goto (tgt := 210) hx hb d_MM_rowOf_206 (by decide) ?_
                refine lv_istore (lv' := [(9, .int (nI 1)), (8, .int (mt_b z8)), (7, .int (mt_b z7)), (6, .int (nI 4)), (5, .int (nI i)), (4, .int (nI x)), (0, .ref (md 0)), (1, .int (nI nn)), (2, .int (nI 2)), (3, .int (nI wh))]) hx hb d_MM_rowOf_210 hl (by decide) rfl (fun ls hl => ?_)
                refine lv_iload hx hb d_MM_rowOf_212 (lv_at hl 0 rfl) ?_
                refine lv_if_eq (tgt := 227) hx hb d_MM_rowOf_214 (by decide) (fun h9 => absurd h9 (by decide)) (fun _ => ?_)
                refine lv_iload hx hb d_MM_rowOf_217 (lv_at hl 5 rfl) ?_
                refine lv_iconst (v := nI 1) hx hb d_MM_rowOf_219 (by decide) ?_
                refine lv_iload hx hb d_MM_rowOf_220 (lv_at hl 4 rfl) ?_
                refine lv_ishl hx hb d_MM_rowOf_222 ?_
                refine mt_ri (y := nI (2 ^ i)) (mt_shl (by omega)) ?_
                refine lv_ior hx hb d_MM_rowOf_223 ?_
                refine mt_ri (y := nI (x ||| (2 ^ i))) (mt_or _ _) ?_
                refine lv_goto (tgt := 229) hx hb d_MM_rowOf_224 (by decide) ?_
                refine lv_istore (lv' := [(4, .int (nI (x ||| (2 ^ i)))), (9, .int (nI 1)), (8, .int (mt_b z8)), (7, .int (mt_b z7)), (6, .int (nI 4)), (5, .int (nI i)), (0, .ref (md 0)), (1, .int (nI nn)), (2, .int (nI 2)), (3, .int (nI wh))]) hx hb d_MM_rowOf_229 hl (by decide) rfl (fun ls hl => ?_)
                refine lv_iinc (k := 5) (v := nI (i + 1)) (lv' := [(5, .int (nI (i + 1))), (4, .int (nI (x ||| (2 ^ i)))), (9, .int (nI 1)), (8, .int (mt_b z8)), (7, .int (mt_b z7)), (6, .int (nI 4)), (0, .ref (md 0)), (1, .int (nI nn)), (2, .int (nI 2)), (3, .int (nI wh))]) hx hb d_MM_rowOf_231 hl rfl (by rw [lit1]; exact nI_1 _) (by decide) rfl (fun ls hl => ?_)
                refine lv_goto (tgt := 6) hx hb d_MM_rowOf_234 (by decide) ?_
                exact ih6 _ (by omega) (i + 1) (x ||| (2 ^ i)) ls rfl (by omega) (mt_pf_t hx9 (by rw [Nat.mod_eq_of_lt (by have := (hw i (by omega)).2.1 (by omega) (by omega); omega)] at hz7 hz8; simp [mt_in, hkv, ← hz7, ← hz8, hc98, hc103])) (lv_sub hl [0, 1, 6, 7, 8, 9] rfl)
              · ---- 9F k4 98F 103F
                refine lv_iload hx hb d_MM_rowOf_106 (lv_at hl 2 rfl) ?_
                refine lv_iconst (v := nI 5) hx hb d_MM_rowOf_108 (by decide) ?_
                refine lv_icmp_ne (tgt := 121) hx hb d_MM_rowOf_109 (by decide) (fun _ => ?_) (fun h9 => absurd h9 (by decide))
                refine lv_iconst (v := nI 0) hx hb d_MM_rowOf_121 (by decide) ?_
                refine lv_istore (lv' := [(9, .int (nI 0)), (8, .int (mt_b z8)), (7, .int (mt_b z7)), (6, .int (nI 4)), (5, .int (nI i)), (4, .int (nI x)), (0, .ref (md 0)), (1, .int (nI nn)), (2, .int (nI 2)), (3, .int (nI wh))]) hx hb d_MM_rowOf_122 hl (by decide) rfl (fun ls hl => ?_)
                refine lv_iload hx hb d_MM_rowOf_124 (lv_at hl 0 rfl) ?_
                refine lv_if_ne (tgt := 205) hx hb d_MM_rowOf_126 (by decide) (fun h9 => absurd h9 (by decide)) (fun _ => ?_)
                refine lv_iload hx hb d_MM_rowOf_129 (lv_at hl 3 rfl) ?_
                refine lv_if_ne (tgt := 153) hx hb d_MM_rowOf_131 (by decide) (fun _ => ?_) (fun h9 => absurd h9 (by decide))
                refine lv_iload hx hb d_MM_rowOf_153 (lv_at hl 3 rfl) ?_
                refine lv_iconst (v := nI 1) hx hb d_MM_rowOf_155 (by decide) ?_
                refine lv_icmp_ne (tgt := 179) hx hb d_MM_rowOf_156 (by decide) (fun _ => ?_) (fun h9 => absurd h9 (by decide))
                refine lv_iload hx hb d_MM_rowOf_179 (lv_at hl 3 rfl) ?_
                refine lv_iconst (v := nI 2) hx hb d_MM_rowOf_181 (by decide) ?_
                refine lv_icmp_ne (tgt := 209) hx hb d_MM_rowOf_182 (by decide) (fun _ => ?_) (fun h9 => absurd h9 (by decide))
                refine lv_iconst (v := nI 0) hx hb d_MM_rowOf_209 (by decide) ?_
                refine lv_istore (lv' := [(9, .int (nI 0)), (8, .int (mt_b z8)), (7, .int (mt_b z7)), (6, .int (nI 4)), (5, .int (nI i)), (4, .int (nI x)), (0, .ref (md 0)), (1, .int (nI nn)), (2, .int (nI 2)), (3, .int (nI wh))]) hx hb d_MM_rowOf_210 hl (by decide) rfl (fun ls hl => ?_)
                refine lv_iload hx hb d_MM_rowOf_212 (lv_at hl 0 rfl) ?_
                refine lv_if_eq (tgt := 227) hx hb d_MM_rowOf_214 (by decide) (fun _ => ?_) (fun h9 => absurd h9 (by decide))
                refine lv_iload hx hb d_MM_rowOf_227 (lv_at hl 5 rfl) ?_
                refine lv_istore (lv' := [(4, .int (nI x)), (9, .int (nI 0)), (8, .int (mt_b z8)), (7, .int (mt_b z7)), (6, .int (nI 4)), (5, .int (nI i)), (0, .ref (md 0)), (1, .int (nI nn)), (2, .int (nI 2)), (3, .int (nI wh))]) hx hb d_MM_rowOf_229 hl (by decide) rfl (fun ls hl => ?_)
                refine lv_iinc (k := 5) (v := nI (i + 1)) (lv' := [(5, .int (nI (i + 1))), (4, .int (nI x)), (9, .int (nI 0)), (8, .int (mt_b z8)), (7, .int (mt_b z7)), (6, .int (nI 4)), (0, .ref (md 0)), (1, .int (nI nn)), (2, .int (nI 2)), (3, .int (nI wh))]) hx hb d_MM_rowOf_231 hl rfl (by rw [lit1]; exact nI_1 _) (by decide) rfl (fun ls hl => ?_)
                refine lv_goto (tgt := 6) hx hb d_MM_rowOf_234 (by decide) ?_
                exact ih6 _ (by omega) (i + 1) x ls rfl (by omega) (mt_pf_f hx9 (by rw [Nat.mod_eq_of_lt (by have := (hw i (by omega)).2.1 (by omega) (by omega); omega)] at hz7 hz8; simp [mt_in, hkv, ← hz7, ← hz8, hc98, hc103])) (lv_sub hl [0, 1, 6, 7, 8, 9] rfl)
          refine lv_iload hx hb d_MM_rowOf_44 (lv_at hl 3 rfl) ?_
          refine lv_aload_n hx hb d_MM_rowOf_46 rfl (lv_at hl 4 rfl) ?_
          refine va_get (D := g.1) (own := R_MM) (ref := R_MM) (ci := 5) (v := .ref (md 3)) (C := R_MM) (T := F_MM) (N := 16) hx hb hts in_MM hown hG.1 hP 0 rfl rfl 3 (by decide) (hts _ wd_386) (fun _ h9 => h9) rfl d_MM_rowOf_47 ?_
          refine lv_iload hx hb d_MM_rowOf_50 (lv_at hl 2 rfl) ?_
          refine va_iald hx hb hG.1 hP 3 0 rfl rfl (vp_in_nI (by omega) (by decide)) d_MM_rowOf_52 ?_
          refine mt_ri (y := nI (b i)) (by rw [nI_clamp (by omega)]; exact (hT _ (by omega)).2.2) ?_
          refine lv_ishr hx hb d_MM_rowOf_53 ?_
          refine lv_iconst (v := nI 1) hx hb d_MM_rowOf_54 (by decide) ?_
          refine lv_iand hx hb d_MM_rowOf_55 ?_
          refine mt_ri (y := mt_b (Nat.testBit x ((b i) % 32))) (mt_bit32 (by omega) (by omega)) ?_
          refine lv_iconst (v := nI 1) hx hb d_MM_rowOf_56 (by decide) ?_
          refine lv_icmp_ne (tgt := 64) hx hb d_MM_rowOf_57 (by decide) (mt_nb1 fun hc57 => ?_) (mt_b1 fun hc57 => ?_)
          · ---- 9F k4 57T
            refine lv_iconst (v := nI 0) hx hb d_MM_rowOf_64 (by decide) ?_
            exact ct65 false (hc57.symm)
          · ---- 9F k4 57F
            refine lv_iconst (v := nI 1) hx hb d_MM_rowOf_60 (by decide) ?_
            refine lv_goto (tgt := 65) hx hb d_MM_rowOf_61 (by decide) ?_
            exact ct65 true (hc57.symm)
        refine lv_iload hx hb d_MM_rowOf_21 (lv_at hl 2 rfl) ?_
        refine lv_aload_n hx hb d_MM_rowOf_23 rfl (lv_at hl 3 rfl) ?_
        refine va_get (D := g.1) (own := R_MM) (ref := R_MM) (ci := 5) (v := .ref (md 2)) (C := R_MM) (T := F_MM) (N := 16) hx hb hts in_MM hown hG.1 hP 0 rfl rfl 2 (by decide) (hts _ wd_385) (fun _ h9 => h9) rfl d_MM_rowOf_24 ?_
        refine lv_iload hx hb d_MM_rowOf_27 (lv_at hl 1 rfl) ?_
        refine va_iald hx hb hG.1 hP 2 0 rfl rfl (vp_in_nI (by omega) (by decide)) d_MM_rowOf_29 ?_
        refine mt_ri (y := nI (a i)) (by rw [nI_clamp (by omega)]; exact (hT _ (by omega)).2.1) ?_
        refine lv_ishr hx hb d_MM_rowOf_30 ?_
        refine lv_iconst (v := nI 1) hx hb d_MM_rowOf_31 (by decide) ?_
        refine lv_iand hx hb d_MM_rowOf_32 ?_
        refine mt_ri (y := mt_b (Nat.testBit x ((a i) % 32))) (mt_bit32 (by omega) (by omega)) ?_
        refine lv_iconst (v := nI 1) hx hb d_MM_rowOf_33 (by decide) ?_
        refine lv_icmp_ne (tgt := 41) hx hb d_MM_rowOf_34 (by decide) (mt_nb1 fun hc34 => ?_) (mt_b1 fun hc34 => ?_)
        · ---- 9F k4 34T
          refine lv_iconst (v := nI 0) hx hb d_MM_rowOf_41 (by decide) ?_
          exact ct42 false (hc34.symm)
        · ---- 9F k4 34F
          refine lv_iconst (v := nI 1) hx hb d_MM_rowOf_37 (by decide) ?_
          refine lv_goto (tgt := 42) hx hb d_MM_rowOf_38 (by decide) ?_
          exact ct42 true (hc34.symm)
      · ---- 9F k5
        refine mt_ri (y := nI 5) (by rw [hkv]) ?_
        refine lv_istore (lv' := [(6, .int (nI 5)), (5, .int (nI i)), (4, .int (nI x)), (0, .ref (md 0)), (1, .int (nI nn)), (2, .int (nI 2)), (3, .int (nI wh))]) hx hb d_MM_rowOf_19 hl (by decide) rfl (fun ls hl => ?_)
        have ct42 : ∀ (z7 : Bool), z7 = x.testBit (a i % 32) → W p l e (gx_rm 0 0) s m ([.ref (md 0), .int (nI nn), .int (nI 2), .int (nI wh)] : List Value).toArray below meth c s.heap [] 0 0 (MQ below (vp_Si (fun r => r = nI (mt_pf k a b (fun t => k t == 2 && Nat.testBit wh (mt_pl k t)) nn))) ([.ref (md 0), .int (nI nn), .int (nI 2), .int (nI wh)] : List Value).toArray s 0 0 (fun _ => False)) (F0 m 42 ls [.int (mt_b z7)]) := by
          intro z7 hcut42
          refine lv_istore (lv' := [(7, .int (mt_b z7)), (6, .int (nI 5)), (5, .int (nI i)), (4, .int (nI x)), (0, .ref (md 0)), (1, .int (nI nn)), (2, .int (nI 2)), (3, .int (nI wh))]) hx hb d_MM_rowOf_42 hl (by decide) rfl (fun ls hl => ?_)
          have ct65 : ∀ (z8 : Bool), z8 = x.testBit (b i % 32) → W p l e (gx_rm 0 0) s m ([.ref (md 0), .int (nI nn), .int (nI 2), .int (nI wh)] : List Value).toArray below meth c s.heap [] 0 0 (MQ below (vp_Si (fun r => r = nI (mt_pf k a b (fun t => k t == 2 && Nat.testBit wh (mt_pl k t)) nn))) ([.ref (md 0), .int (nI nn), .int (nI 2), .int (nI wh)] : List Value).toArray s 0 0 (fun _ => False)) (F0 m 65 ls [.int (mt_b z8)]) := by
            intro z8 hcut65
            refine lv_istore (lv' := [(8, .int (mt_b z8)), (7, .int (mt_b z7)), (6, .int (nI 5)), (5, .int (nI i)), (4, .int (nI x)), (0, .ref (md 0)), (1, .int (nI nn)), (2, .int (nI 2)), (3, .int (nI wh))]) hx hb d_MM_rowOf_65 hl (by decide) rfl (fun ls hl => ?_)
            have hz7 := hcut42
            have hz8 := hcut65
            have hz9 := hz8
            refine lv_iload hx hb d_MM_rowOf_67 (lv_at hl 2 rfl) ?_
            refine lv_bipush (v := nI 6) hx hb d_MM_rowOf_69 (by decide) ?_
            refine lv_icmp_eq (tgt := 117) hx hb d_MM_rowOf_71 (by decide) (fun h9 => absurd h9 (by decide)) (fun _ => ?_)
            refine lv_iload hx hb d_MM_rowOf_74 (lv_at hl 2 rfl) ?_
            refine lv_iconst (v := nI 3) hx hb d_MM_rowOf_76 (by decide) ?_
            refine lv_icmp_ne (tgt := 90) hx hb d_MM_rowOf_77 (by decide) (fun _ => ?_) (fun h9 => absurd h9 (by decide))
            refine lv_iload hx hb d_MM_rowOf_90 (lv_at hl 2 rfl) ?_
            refine lv_iconst (v := nI 4) hx hb d_MM_rowOf_92 (by decide) ?_
            refine lv_icmp_ne (tgt := 106) hx hb d_MM_rowOf_93 (by decide) (fun _ => ?_) (fun h9 => absurd h9 (by decide))
            refine lv_iload hx hb d_MM_rowOf_106 (lv_at hl 2 rfl) ?_
            refine lv_iconst (v := nI 5) hx hb d_MM_rowOf_108 (by decide) ?_
            refine lv_icmp_ne (tgt := 121) hx hb d_MM_rowOf_109 (by decide) (fun h9 => absurd h9 (by decide)) (fun _ => ?_)
            refine lv_iload hx hb d_MM_rowOf_112 (lv_at hl 1 rfl) ?_
            refine lv_if_ne (tgt := 121) hx hb d_MM_rowOf_114 (by decide) (mt_nz fun hc114 => ?_) (mt_z fun hc114 => ?_)
            · ---- 9F k5 114T
              refine lv_iconst (v := nI 0) hx hb d_MM_rowOf_121 (by decide) ?_
              refine lv_istore (lv' := [(9, .int (nI 0)), (8, .int (mt_b z8)), (7, .int (mt_b z7)), (6, .int (nI 5)), (5, .int (nI i)), (4, .int (nI x)), (0, .ref (md 0)), (1, .int (nI nn)), (2, .int (nI 2)), (3, .int (nI wh))]) hx hb d_MM_rowOf_122 hl (by decide) rfl (fun ls hl => ?_)
              refine lv_iload hx hb d_MM_rowOf_124 (lv_at hl 0 rfl) ?_
              refine lv_if_ne (tgt := 205) hx hb d_MM_rowOf_126 (by decide) (fun h9 => absurd h9 (by decide)) (fun _ => ?_)
              refine lv_iload hx hb d_MM_rowOf_129 (lv_at hl 3 rfl) ?_
              refine lv_if_ne (tgt := 153) hx hb d_MM_rowOf_131 (by decide) (fun _ => ?_) (fun h9 => absurd h9 (by decide))
              refine lv_iload hx hb d_MM_rowOf_153 (lv_at hl 3 rfl) ?_
              refine lv_iconst (v := nI 1) hx hb d_MM_rowOf_155 (by decide) ?_
              refine lv_icmp_ne (tgt := 179) hx hb d_MM_rowOf_156 (by decide) (fun _ => ?_) (fun h9 => absurd h9 (by decide))
              refine lv_iload hx hb d_MM_rowOf_179 (lv_at hl 3 rfl) ?_
              refine lv_iconst (v := nI 2) hx hb d_MM_rowOf_181 (by decide) ?_
              refine lv_icmp_ne (tgt := 209) hx hb d_MM_rowOf_182 (by decide) (fun _ => ?_) (fun h9 => absurd h9 (by decide))
              refine lv_iconst (v := nI 0) hx hb d_MM_rowOf_209 (by decide) ?_
              refine lv_istore (lv' := [(9, .int (nI 0)), (8, .int (mt_b z8)), (7, .int (mt_b z7)), (6, .int (nI 5)), (5, .int (nI i)), (4, .int (nI x)), (0, .ref (md 0)), (1, .int (nI nn)), (2, .int (nI 2)), (3, .int (nI wh))]) hx hb d_MM_rowOf_210 hl (by decide) rfl (fun ls hl => ?_)
              refine lv_iload hx hb d_MM_rowOf_212 (lv_at hl 0 rfl) ?_
              refine lv_if_eq (tgt := 227) hx hb d_MM_rowOf_214 (by decide) (fun _ => ?_) (fun h9 => absurd h9 (by decide))
              refine lv_iload hx hb d_MM_rowOf_227 (lv_at hl 5 rfl) ?_
              refine lv_istore (lv' := [(4, .int (nI x)), (9, .int (nI 0)), (8, .int (mt_b z8)), (7, .int (mt_b z7)), (6, .int (nI 5)), (5, .int (nI i)), (0, .ref (md 0)), (1, .int (nI nn)), (2, .int (nI 2)), (3, .int (nI wh))]) hx hb d_MM_rowOf_229 hl (by decide) rfl (fun ls hl => ?_)
              refine lv_iinc (k := 5) (v := nI (i + 1)) (lv' := [(5, .int (nI (i + 1))), (4, .int (nI x)), (9, .int (nI 0)), (8, .int (mt_b z8)), (7, .int (mt_b z7)), (6, .int (nI 5)), (0, .ref (md 0)), (1, .int (nI nn)), (2, .int (nI 2)), (3, .int (nI wh))]) hx hb d_MM_rowOf_231 hl rfl (by rw [lit1]; exact nI_1 _) (by decide) rfl (fun ls hl => ?_)
              refine lv_goto (tgt := 6) hx hb d_MM_rowOf_234 (by decide) ?_
              exact ih6 _ (by omega) (i + 1) x ls rfl (by omega) (mt_pf_f hx9 (by rw [Nat.mod_eq_of_lt (by have := (hw i (by omega)).2.1 (by omega) (by omega); omega)] at hz7 hz8; simp [mt_in, hkv, ← hz7, ← hz8, hc114])) (lv_sub hl [0, 1, 6, 7, 8, 9] rfl)
            · ---- 9F k5 114F
              refine lv_iconst (v := nI 1) hx hb d_MM_rowOf_117 (by decide) ?_
              refine lv_goto (tgt := 122) hx hb d_MM_rowOf_118 (by decide) ?_
              refine lv_istore (lv' := [(9, .int (nI 1)), (8, .int (mt_b z8)), (7, .int (mt_b z7)), (6, .int (nI 5)), (5, .int (nI i)), (4, .int (nI x)), (0, .ref (md 0)), (1, .int (nI nn)), (2, .int (nI 2)), (3, .int (nI wh))]) hx hb d_MM_rowOf_122 hl (by decide) rfl (fun ls hl => ?_)
              refine lv_iload hx hb d_MM_rowOf_124 (lv_at hl 0 rfl) ?_
              refine lv_if_ne (tgt := 205) hx hb d_MM_rowOf_126 (by decide) (fun _ => ?_) (fun h9 => absurd h9 (by decide))
              refine lv_iconst (v := nI 1) hx hb d_MM_rowOf_205 (by decide) ?_
              refine lv_goto (tgt := 210) hx hb d_MM_rowOf_206 (by decide) ?_
              refine lv_istore (lv' := [(9, .int (nI 1)), (8, .int (mt_b z8)), (7, .int (mt_b z7)), (6, .int (nI 5)), (5, .int (nI i)), (4, .int (nI x)), (0, .ref (md 0)), (1, .int (nI nn)), (2, .int (nI 2)), (3, .int (nI wh))]) hx hb d_MM_rowOf_210 hl (by decide) rfl (fun ls hl => ?_)
              refine lv_iload hx hb d_MM_rowOf_212 (lv_at hl 0 rfl) ?_
              refine lv_if_eq (tgt := 227) hx hb d_MM_rowOf_214 (by decide) (fun h9 => absurd h9 (by decide)) (fun _ => ?_)
              refine lv_iload hx hb d_MM_rowOf_217 (lv_at hl 5 rfl) ?_
              refine lv_iconst (v := nI 1) hx hb d_MM_rowOf_219 (by decide) ?_
              refine lv_iload hx hb d_MM_rowOf_220 (lv_at hl 4 rfl) ?_
              refine lv_ishl hx hb d_MM_rowOf_222 ?_
              refine mt_ri (y := nI (2 ^ i)) (mt_shl (by omega)) ?_
              refine lv_ior hx hb d_MM_rowOf_223 ?_
              refine mt_ri (y := nI (x ||| (2 ^ i))) (mt_or _ _) ?_
              refine lv_goto (tgt := 229) hx hb d_MM_rowOf_224 (by decide) ?_
              refine lv_istore (lv' := [(4, .int (nI (x ||| (2 ^ i)))), (9, .int (nI 1)), (8, .int (mt_b z8)), (7, .int (mt_b z7)), (6, .int (nI 5)), (5, .int (nI i)), (0, .ref (md 0)), (1, .int (nI nn)), (2, .int (nI 2)), (3, .int (nI wh))]) hx hb d_MM_rowOf_229 hl (by decide) rfl (fun ls hl => ?_)
              refine lv_iinc (k := 5) (v := nI (i + 1)) (lv' := [(5, .int (nI (i + 1))), (4, .int (nI (x ||| (2 ^ i)))), (9, .int (nI 1)), (8, .int (mt_b z8)), (7, .int (mt_b z7)), (6, .int (nI 5)), (0, .ref (md 0)), (1, .int (nI nn)), (2, .int (nI 2)), (3, .int (nI wh))]) hx hb d_MM_rowOf_231 hl rfl (by rw [lit1]; exact nI_1 _) (by decide) rfl (fun ls hl => ?_)
              refine lv_goto (tgt := 6) hx hb d_MM_rowOf_234 (by decide) ?_
              exact ih6 _ (by omega) (i + 1) (x ||| (2 ^ i)) ls rfl (by omega) (mt_pf_t hx9 (by rw [Nat.mod_eq_of_lt (by have := (hw i (by omega)).2.1 (by omega) (by omega); omega)] at hz7 hz8; simp [mt_in, hkv, ← hz7, ← hz8, hc114])) (lv_sub hl [0, 1, 6, 7, 8, 9] rfl)
          refine lv_iload hx hb d_MM_rowOf_44 (lv_at hl 3 rfl) ?_
          refine lv_aload_n hx hb d_MM_rowOf_46 rfl (lv_at hl 4 rfl) ?_
          refine va_get (D := g.1) (own := R_MM) (ref := R_MM) (ci := 5) (v := .ref (md 3)) (C := R_MM) (T := F_MM) (N := 16) hx hb hts in_MM hown hG.1 hP 0 rfl rfl 3 (by decide) (hts _ wd_386) (fun _ h9 => h9) rfl d_MM_rowOf_47 ?_
          refine lv_iload hx hb d_MM_rowOf_50 (lv_at hl 2 rfl) ?_
          refine va_iald hx hb hG.1 hP 3 0 rfl rfl (vp_in_nI (by omega) (by decide)) d_MM_rowOf_52 ?_
          refine mt_ri (y := nI (b i)) (by rw [nI_clamp (by omega)]; exact (hT _ (by omega)).2.2) ?_
          refine lv_ishr hx hb d_MM_rowOf_53 ?_
          refine lv_iconst (v := nI 1) hx hb d_MM_rowOf_54 (by decide) ?_
          refine lv_iand hx hb d_MM_rowOf_55 ?_
          refine mt_ri (y := mt_b (Nat.testBit x ((b i) % 32))) (mt_bit32 (by omega) (by omega)) ?_
          refine lv_iconst (v := nI 1) hx hb d_MM_rowOf_56 (by decide) ?_
          refine lv_icmp_ne (tgt := 64) hx hb d_MM_rowOf_57 (by decide) (mt_nb1 fun hc57 => ?_) (mt_b1 fun hc57 => ?_)
          · ---- 9F k5 57T
            refine lv_iconst (v := nI 0) hx hb d_MM_rowOf_64 (by decide) ?_
            exact ct65 false (hc57.symm)
          · ---- 9F k5 57F
            refine lv_iconst (v := nI 1) hx hb d_MM_rowOf_60 (by decide) ?_
            refine lv_goto (tgt := 65) hx hb d_MM_rowOf_61 (by decide) ?_
            exact ct65 true (hc57.symm)
        refine lv_iload hx hb d_MM_rowOf_21 (lv_at hl 2 rfl) ?_
        refine lv_aload_n hx hb d_MM_rowOf_23 rfl (lv_at hl 3 rfl) ?_
        refine va_get (D := g.1) (own := R_MM) (ref := R_MM) (ci := 5) (v := .ref (md 2)) (C := R_MM) (T := F_MM) (N := 16) hx hb hts in_MM hown hG.1 hP 0 rfl rfl 2 (by decide) (hts _ wd_385) (fun _ h9 => h9) rfl d_MM_rowOf_24 ?_
        refine lv_iload hx hb d_MM_rowOf_27 (lv_at hl 1 rfl) ?_
        refine va_iald hx hb hG.1 hP 2 0 rfl rfl (vp_in_nI (by omega) (by decide)) d_MM_rowOf_29 ?_
        refine mt_ri (y := nI (a i)) (by rw [nI_clamp (by omega)]; exact (hT _ (by omega)).2.1) ?_
        refine lv_ishr hx hb d_MM_rowOf_30 ?_
        refine lv_iconst (v := nI 1) hx hb d_MM_rowOf_31 (by decide) ?_
        refine lv_iand hx hb d_MM_rowOf_32 ?_
        refine mt_ri (y := mt_b (Nat.testBit x ((a i) % 32))) (mt_bit32 (by omega) (by omega)) ?_
        refine lv_iconst (v := nI 1) hx hb d_MM_rowOf_33 (by decide) ?_
        refine lv_icmp_ne (tgt := 41) hx hb d_MM_rowOf_34 (by decide) (mt_nb1 fun hc34 => ?_) (mt_b1 fun hc34 => ?_)
        · ---- 9F k5 34T
          refine lv_iconst (v := nI 0) hx hb d_MM_rowOf_41 (by decide) ?_
          exact ct42 false (hc34.symm)
        · ---- 9F k5 34F
          refine lv_iconst (v := nI 1) hx hb d_MM_rowOf_37 (by decide) ?_
          refine lv_goto (tgt := 42) hx hb d_MM_rowOf_38 (by decide) ?_
          exact ct42 true (hc34.symm)
      · ---- 9F k6
        refine mt_ri (y := nI 6) (by rw [hkv]) ?_
        refine lv_istore (lv' := [(6, .int (nI 6)), (5, .int (nI i)), (4, .int (nI x)), (0, .ref (md 0)), (1, .int (nI nn)), (2, .int (nI 2)), (3, .int (nI wh))]) hx hb d_MM_rowOf_19 hl (by decide) rfl (fun ls hl => ?_)
        have ct42 : ∀ (z7 : Bool), z7 = x.testBit (a i % 32) → W p l e (gx_rm 0 0) s m ([.ref (md 0), .int (nI nn), .int (nI 2), .int (nI wh)] : List Value).toArray below meth c s.heap [] 0 0 (MQ below (vp_Si (fun r => r = nI (mt_pf k a b (fun t => k t == 2 && Nat.testBit wh (mt_pl k t)) nn))) ([.ref (md 0), .int (nI nn), .int (nI 2), .int (nI wh)] : List Value).toArray s 0 0 (fun _ => False)) (F0 m 42 ls [.int (mt_b z7)]) := by
          intro z7 hcut42
          refine lv_istore (lv' := [(7, .int (mt_b z7)), (6, .int (nI 6)), (5, .int (nI i)), (4, .int (nI x)), (0, .ref (md 0)), (1, .int (nI nn)), (2, .int (nI 2)), (3, .int (nI wh))]) hx hb d_MM_rowOf_42 hl (by decide) rfl (fun ls hl => ?_)
          have ct65 : ∀ (z8 : Bool), z8 = x.testBit (b i % 32) → W p l e (gx_rm 0 0) s m ([.ref (md 0), .int (nI nn), .int (nI 2), .int (nI wh)] : List Value).toArray below meth c s.heap [] 0 0 (MQ below (vp_Si (fun r => r = nI (mt_pf k a b (fun t => k t == 2 && Nat.testBit wh (mt_pl k t)) nn))) ([.ref (md 0), .int (nI nn), .int (nI 2), .int (nI wh)] : List Value).toArray s 0 0 (fun _ => False)) (F0 m 65 ls [.int (mt_b z8)]) := by
            intro z8 hcut65
            refine lv_istore (lv' := [(8, .int (mt_b z8)), (7, .int (mt_b z7)), (6, .int (nI 6)), (5, .int (nI i)), (4, .int (nI x)), (0, .ref (md 0)), (1, .int (nI nn)), (2, .int (nI 2)), (3, .int (nI wh))]) hx hb d_MM_rowOf_65 hl (by decide) rfl (fun ls hl => ?_)
            have hz7 := hcut42
            have hz8 := hcut65
            have hz9 := hz8
            refine lv_iload hx hb d_MM_rowOf_67 (lv_at hl 2 rfl) ?_
            refine lv_bipush (v := nI 6) hx hb d_MM_rowOf_69 (by decide) ?_
            refine lv_icmp_eq (tgt := 117) hx hb d_MM_rowOf_71 (by decide) (fun _ => ?_) (fun h9 => absurd h9 (by decide))
            refine lv_iconst (v := nI 1) hx hb d_MM_rowOf_117 (by decide) ?_
            refine lv_goto (tgt := 122) hx hb d_MM_rowOf_118 (by decide) ?_
            refine lv_istore (lv' := [(9, .int (nI 1)), (8, .int (mt_b z8)), (7, .int (mt_b z7)), (6, .int (nI 6)), (5, .int (nI i)), (4, .int (nI x)), (0, .ref (md 0)), (1, .int (nI nn)), (2, .int (nI 2)), (3, .int (nI wh))]) hx hb d_MM_rowOf_122 hl (by decide) rfl (fun ls hl => ?_)
            refine lv_iload hx hb d_MM_rowOf_124 (lv_at hl 0 rfl) ?_
            refine lv_if_ne (tgt := 205) hx hb d_MM_rowOf_126 (by decide) (fun _ => ?_) (fun h9 => absurd h9 (by decide))
            refine lv_iconst (v := nI 1) hx hb d_MM_rowOf_205 (by decide) ?_
            refine lv_goto (tgt := 210) hx hb d_MM_rowOf_206 (by decide) ?_
            refine lv_istore (lv' := [(9, .int (nI 1)), (8, .int (mt_b z8)), (7, .int (mt_b z7)), (6, .int (nI 6)), (5, .int (nI i)), (4, .int (nI x)), (0, .ref (md 0)), (1, .int (nI nn)), (2, .int (nI 2)), (3, .int (nI wh))]) hx hb d_MM_rowOf_210 hl (by decide) rfl (fun ls hl => ?_)
            refine lv_iload hx hb d_MM_rowOf_212 (lv_at hl 0 rfl) ?_
            refine lv_if_eq (tgt := 227) hx hb d_MM_rowOf_214 (by decide) (fun h9 => absurd h9 (by decide)) (fun _ => ?_)
            refine lv_iload hx hb d_MM_rowOf_217 (lv_at hl 5 rfl) ?_
            refine lv_iconst (v := nI 1) hx hb d_MM_rowOf_219 (by decide) ?_
            refine lv_iload hx hb d_MM_rowOf_220 (lv_at hl 4 rfl) ?_
            refine lv_ishl hx hb d_MM_rowOf_222 ?_
            refine mt_ri (y := nI (2 ^ i)) (mt_shl (by omega)) ?_
            refine lv_ior hx hb d_MM_rowOf_223 ?_
            refine mt_ri (y := nI (x ||| (2 ^ i))) (mt_or _ _) ?_
            refine lv_goto (tgt := 229) hx hb d_MM_rowOf_224 (by decide) ?_
            refine lv_istore (lv' := [(4, .int (nI (x ||| (2 ^ i)))), (9, .int (nI 1)), (8, .int (mt_b z8)), (7, .int (mt_b z7)), (6, .int (nI 6)), (5, .int (nI i)), (0, .ref (md 0)), (1, .int (nI nn)), (2, .int (nI 2)), (3, .int (nI wh))]) hx hb d_MM_rowOf_229 hl (by decide) rfl (fun ls hl => ?_)
            refine lv_iinc (k := 5) (v := nI (i + 1)) (lv' := [(5, .int (nI (i + 1))), (4, .int (nI (x ||| (2 ^ i)))), (9, .int (nI 1)), (8, .int (mt_b z8)), (7, .int (mt_b z7)), (6, .int (nI 6)), (0, .ref (md 0)), (1, .int (nI nn)), (2, .int (nI 2)), (3, .int (nI wh))]) hx hb d_MM_rowOf_231 hl rfl (by rw [lit1]; exact nI_1 _) (by decide) rfl (fun ls hl => ?_)
            refine lv_goto (tgt := 6) hx hb d_MM_rowOf_234 (by decide) ?_
            exact ih6 _ (by omega) (i + 1) (x ||| (2 ^ i)) ls rfl (by omega) (mt_pf_t hx9 (by simp [mt_in, hkv])) (lv_sub hl [0, 1, 6, 7, 8, 9] rfl)
          refine lv_iload hx hb d_MM_rowOf_44 (lv_at hl 3 rfl) ?_
          refine lv_aload_n hx hb d_MM_rowOf_46 rfl (lv_at hl 4 rfl) ?_
          refine va_get (D := g.1) (own := R_MM) (ref := R_MM) (ci := 5) (v := .ref (md 3)) (C := R_MM) (T := F_MM) (N := 16) hx hb hts in_MM hown hG.1 hP 0 rfl rfl 3 (by decide) (hts _ wd_386) (fun _ h9 => h9) rfl d_MM_rowOf_47 ?_
          refine lv_iload hx hb d_MM_rowOf_50 (lv_at hl 2 rfl) ?_
          refine va_iald hx hb hG.1 hP 3 0 rfl rfl (vp_in_nI (by omega) (by decide)) d_MM_rowOf_52 ?_
          refine mt_ri (y := nI (b i)) (by rw [nI_clamp (by omega)]; exact (hT _ (by omega)).2.2) ?_
          refine lv_ishr hx hb d_MM_rowOf_53 ?_
          refine lv_iconst (v := nI 1) hx hb d_MM_rowOf_54 (by decide) ?_
          refine lv_iand hx hb d_MM_rowOf_55 ?_
          refine mt_ri (y := mt_b (Nat.testBit x ((b i) % 32))) (mt_bit32 (by omega) (by omega)) ?_
          refine lv_iconst (v := nI 1) hx hb d_MM_rowOf_56 (by decide) ?_
          refine lv_icmp_ne (tgt := 64) hx hb d_MM_rowOf_57 (by decide) (mt_nb1 fun hc57 => ?_) (mt_b1 fun hc57 => ?_)
          · ---- 9F k6 57T
            refine lv_iconst (v := nI 0) hx hb d_MM_rowOf_64 (by decide) ?_
            exact ct65 false (hc57.symm)
          · ---- 9F k6 57F
            refine lv_iconst (v := nI 1) hx hb d_MM_rowOf_60 (by decide) ?_
            refine lv_goto (tgt := 65) hx hb d_MM_rowOf_61 (by decide) ?_
            exact ct65 true (hc57.symm)
        refine lv_iload hx hb d_MM_rowOf_21 (lv_at hl 2 rfl) ?_
        refine lv_aload_n hx hb d_MM_rowOf_23 rfl (lv_at hl 3 rfl) ?_
        refine va_get (D := g.1) (own := R_MM) (ref := R_MM) (ci := 5) (v := .ref (md 2)) (C := R_MM) (T := F_MM) (N := 16) hx hb hts in_MM hown hG.1 hP 0 rfl rfl 2 (by decide) (hts _ wd_385) (fun _ h9 => h9) rfl d_MM_rowOf_24 ?_
        refine lv_iload hx hb d_MM_rowOf_27 (lv_at hl 1 rfl) ?_
        refine va_iald hx hb hG.1 hP 2 0 rfl rfl (vp_in_nI (by omega) (by decide)) d_MM_rowOf_29 ?_
        refine mt_ri (y := nI (a i)) (by rw [nI_clamp (by omega)]; exact (hT _ (by omega)).2.1) ?_
        refine lv_ishr hx hb d_MM_rowOf_30 ?_
        refine lv_iconst (v := nI 1) hx hb d_MM_rowOf_31 (by decide) ?_
        refine lv_iand hx hb d_MM_rowOf_32 ?_
        refine mt_ri (y := mt_b (Nat.testBit x ((a i) % 32))) (mt_bit32 (by omega) (by omega)) ?_
        refine lv_iconst (v := nI 1) hx hb d_MM_rowOf_33 (by decide) ?_
        refine lv_icmp_ne (tgt := 41) hx hb d_MM_rowOf_34 (by decide) (mt_nb1 fun hc34 => ?_) (mt_b1 fun hc34 => ?_)
        · ---- 9F k6 34T
          refine lv_iconst (v := nI 0) hx hb d_MM_rowOf_41 (by decide) ?_
          exact ct42 false (hc34.symm)
        · ---- 9F k6 34F
          refine lv_iconst (v := nI 1) hx hb d_MM_rowOf_37 (by decide) ?_
          refine lv_goto (tgt := 42) hx hb d_MM_rowOf_38 (by decide) ?_
          exact ct42 true (hc34.symm)
  exact lp6 _ 0 0 ls rfl (Nat.zero_le _) (rfl) (lv_sub hl [0, 1, 2, 3, 4, 5] rfl)
