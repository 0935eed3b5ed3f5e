/-! both sides answer alike -/
theorem sp_b_det {P : Prop} {r1 r2 : Int32} (h1 : ∃ q, r1 = mt_b q ∧ (q = true ↔ P)) (h2 : ∃ q, r2 = mt_b q ∧ (q = true ↔ P)) : r1 = r2 := by
  obtain ⟨q1, e1, h1⟩ := h1
  obtain ⟨q2, e2, h2⟩ := h2
  rw [e1, e2, Bool.eq_iff_iff.mpr (h1.trans h2.symm)]
theorem sp_cst_det {T T1 T2 : gTS} {x r1 r2 : Int32} (h1 : sp_cst T x r1 T1) (h2 : sp_cst T x r2 T2) : r1 = r2 ∧ T1 = T2 := by
  rcases h1 with ⟨i, hi, hn, e1, t1⟩ | ⟨n1, e1, t1⟩ <;> rcases h2 with ⟨j, hj, hm, e2, t2⟩ | ⟨n2, e2, t2⟩
  · have := sp_is_inj (by decide) hi hj
    subst this
    exact ⟨e1.trans e2.symm, t1.trans t2.symm⟩
  · exact absurd ⟨i, hi, hn⟩ n2
  · exact absurd ⟨j, hj, hm⟩ n1
  · exact ⟨e1.trans e2.symm, t1.trans t2.symm⟩
theorem sp_any_det {T T1 T2 : gTS} {r1 r2 : Int32} (h1 : sp_any T r1 T1) (h2 : sp_any T r2 T2) : r1 = r2 ∧ T1 = T2 := by
  rcases h1 with ⟨n1, e1, t1⟩ | ⟨n1, e1, t1⟩ <;> rcases h2 with ⟨n2, e2, t2⟩ | ⟨n2, e2, t2⟩
  · exact ⟨e1.trans e2.symm, t1.trans t2.symm⟩
  · exact absurd n1 n2
  · exact absurd n2 n1
  · exact ⟨e1.trans e2.symm, t1.trans t2.symm⟩
theorem sp_cmb_det {T T1 T2 : gTS} {kk : Nat} {x y r1 r2 : Int32} (h1 : sp_cmb T kk x y r1 T1) (h2 : sp_cmb T kk x y r2 T2) : r1 = r2 ∧ T1 = T2 := by
  rcases h1 with ⟨i, j, ho, e1, t1⟩ | ⟨n1, e1, t1⟩ <;> rcases h2 with ⟨i', j', ho', e2, t2⟩ | ⟨n2, e2, t2⟩
  · have hn : T.1 ≤ 100 := by have := ho.2.2.1; omega
    have a1 := sp_is_inj hn ho.1 ho'.1
    have a2 := sp_is_inj hn ho.2.1 ho'.2.1
    subst a1
    subst a2
    exact ⟨e1.trans e2.symm, t1.trans t2.symm⟩
  · exact absurd ⟨i, j, ho⟩ n2
  · exact absurd ⟨i', j', ho'⟩ n1
  · exact ⟨e1.trans e2.symm, t1.trans t2.symm⟩
theorem sp_cmp_det {T : gTS} {x y r1 r2 : Int32} (hn : T.1 ≤ 100) (h1 : sp_cmp T x y r1) (h2 : sp_cmp T x y r2) : r1 = r2 := by
  rcases h1 with ⟨n1, e1⟩ | ⟨i, j, hi, hj, c1⟩ <;> rcases h2 with ⟨n2, e2⟩ | ⟨i', j', hi', hj', c2⟩
  · exact e1.trans e2.symm
  · exact absurd ⟨i', j', hi', hj'⟩ n1
  · exact absurd ⟨i, j, hi, hj⟩ n2
  · have a1 := sp_is_inj hn hi hi'
    have a2 := sp_is_inj hn hj hj'
    subst a1
    subst a2
    rcases c1 with ⟨p1, q1, e1⟩ | ⟨p1, q1, e1⟩ | ⟨p1, q1, e1⟩ | ⟨p1, q1, d1, e1⟩ | ⟨p1, q1, d1, e1⟩ <;> rcases c2 with ⟨p2, q2, e2⟩ | ⟨p2, q2, e2⟩ | ⟨p2, q2, e2⟩ | ⟨p2, q2, d2, e2⟩ | ⟨p2, q2, d2, e2⟩ <;>
      first
      | exact absurd p1 p2
      | exact absurd p2 p1
      | exact absurd q1 q2
      | exact absurd q2 q1
      | exact absurd d1 d2
      | exact absurd d2 d1
      | exact e1.trans e2.symm
theorem sp_con_det {V V1 V2 : gVS} {x r1 r2 : Int32} (h1 : sp_con V x r1 V1) (h2 : sp_con V x r2 V2) : r1 = r2 ∧ V1 = V2 := by
  rcases h1 with ⟨i, hi, hn, e1, t1⟩ | ⟨n1, e1, t1⟩ <;> rcases h2 with ⟨j, hj, hm, e2, t2⟩ | ⟨n2, e2, t2⟩
  · have := sp_is_inj (by decide) hi hj
    subst this
    exact ⟨e1.trans e2.symm, t1.trans t2.symm⟩
  · exact absurd ⟨i, hi, hn⟩ n2
  · exact absurd ⟨j, hj, hm⟩ n1
  · exact ⟨e1.trans e2.symm, t1.trans t2.symm⟩
theorem sp_pai_det {V V1 V2 : gVS} {x y r1 r2 : Int32} (h1 : sp_pai V x y r1 V1) (h2 : sp_pai V x y r2 V2) : r1 = r2 ∧ V1 = V2 := by
  rcases h1 with ⟨i, j, ho, e1, t1⟩ | ⟨n1, e1, t1⟩ <;> rcases h2 with ⟨i', j', ho', e2, t2⟩ | ⟨n2, e2, t2⟩
  · have hn : V.1 ≤ 100 := by have := ho.2.2.1; omega
    have a1 := sp_is_inj hn ho.1 ho'.1
    have a2 := sp_is_inj hn ho.2.1 ho'.2.1
    subst a1
    subst a2
    exact ⟨e1.trans e2.symm, t1.trans t2.symm⟩
  · exact absurd ⟨i, j, ho⟩ n2
  · exact absurd ⟨i', j', ho'⟩ n1
  · exact ⟨e1.trans e2.symm, t1.trans t2.symm⟩
theorem sp_fun_det {T : gTS} {V V1 V2 : gVS} {x r1 r2 : Int32} (hn : T.1 ≤ 100) (h1 : sp_fun T V x r1 V1) (h2 : sp_fun T V x r2 V2) : r1 = r2 ∧ V1 = V2 := by
  rcases h1 with ⟨i, ho, e1, t1⟩ | ⟨n1, e1, t1⟩ <;> rcases h2 with ⟨i', ho', e2, t2⟩ | ⟨n2, e2, t2⟩
  · have a1 := sp_is_inj hn ho.1 ho'.1
    subst a1
    exact ⟨e1.trans e2.symm, t1.trans t2.symm⟩
  · exact absurd ⟨i, ho⟩ n2
  · exact absurd ⟨i', ho'⟩ n1
  · exact ⟨e1.trans e2.symm, t1.trans t2.symm⟩
theorem sp_mat_det {T : gTS} {V : gVS} {x y w o r1 r2 : Int32} (hn : T.1 ≤ 100) (hv : V.1 ≤ 100) (h1 : sp_mat T V x y w o r1) (h2 : sp_mat T V x y w o r2) : r1 = r2 := by
  rcases h1 with ⟨n1, e1⟩ | ⟨i, j, h, f, hi, hj, hh, hf, c1⟩ <;> rcases h2 with ⟨n2, e2⟩ | ⟨i', j', h', f', hi', hj', hh', hf', c2⟩
  · exact e1.trans e2.symm
  · exact absurd ⟨i', j', h', f', hi', hj', hh', hf'⟩ n1
  · exact absurd ⟨i, j, h, f, hi, hj, hh, hf⟩ n2
  · have a1 := sp_is_inj hv hi hi'
    have a2 := sp_is_inj hn hj hj'
    have a3 := sp_is_inj hn hh hh'
    have a4 := sp_is_inj hn hf hf'
    subst a1
    subst a2
    subst a3
    subst a4
    rcases c1 with ⟨p1, e1⟩ | ⟨p1, q1, e1⟩ | ⟨p1, q1, d1, e1⟩ | ⟨p1, q1, d1, e1⟩ <;> rcases c2 with ⟨p2, e2⟩ | ⟨p2, q2, e2⟩ | ⟨p2, q2, d2, e2⟩ | ⟨p2, q2, d2, e2⟩ <;>
      first
      | exact absurd p1 p2
      | exact absurd p2 p1
      | exact absurd q1 q2
      | exact absurd q2 q1
      | exact absurd d1 d2
      | exact absurd d2 d1
      | exact e1.trans e2.symm
theorem mt_num_congr {f f' : Nat → Bool} {n : Nat} (h : ∀ t, t < n → f t = f' t) : mt_num f n = mt_num f' n := by
  induction n with
  | zero => rfl
  | succ n ih => simp only [mt_num, ih (fun t ht => h t (by omega)), h n (by omega)]
theorem sp_srt_det {T : gTS} {V : gVS} {x r1 r2 : Int32} (hv : V.1 ≤ 100) (h1 : sp_srt T V x r1) (h2 : sp_srt T V x r2) : r1 = r2 := by
  rcases h1 with ⟨n1, e1⟩ | ⟨i, f, hi, hf, e1⟩ <;> rcases h2 with ⟨n2, e2⟩ | ⟨i', f', hi', hf', e2⟩
  · exact e1.trans e2.symm
  · exact absurd ⟨i', hi'⟩ n1
  · exact absurd ⟨i, hi⟩ n2
  · have a1 := sp_is_inj hv hi hi'
    subst a1
    rw [e1, e2, mt_num_congr (fun t ht => Bool.eq_iff_iff.mpr ((hf t ht).trans (hf' t ht).symm))]
/-! the law's own words -/
theorem lx_start {s : State} {av : Array Value} (hts : ∀ w ∈ lw_tbl, w.before av s = true) : ∃ g : gG, gx_ok g s := by
  obtain ⟨c0, i0, k0⟩ := u_known (T := F_PS) (N := 3) hts (fun w hw => gx_tG_in w (in_PS w hw)) (hts _ (gx_tG_in _ wd_59))
  obtain ⟨c1, i1, k1⟩ := u_known (T := F_TT) (N := 6) hts (fun w hw => gx_tG_in w (in_TT w hw)) (hts _ (gx_tG_in _ wd_25))
  obtain ⟨c2, i2, k2⟩ := u_known (T := F_MG) (N := 6) hts (fun w hw => gx_tG_in w (in_MG w hw)) (hts _ (gx_tG_in _ wd_19))
  obtain ⟨c3, i3, k3⟩ := u_known (T := F_VT) (N := 8) hts (fun w hw => gx_tG_in w (in_VT w hw)) (hts _ (gx_tG_in _ wd_113))
  obtain ⟨c4, i4, k4⟩ := u_known (T := F_MT) (N := 2) hts (fun w hw => gx_tG_in w (in_MT w hw)) (hts _ (gx_tG_in _ wd_11))
  obtain ⟨c5, i5, k5⟩ := u_known (T := F_MM) (N := 16) hts (fun w hw => gx_tG_in w (in_MM w hw)) (hts _ (gx_tG_in _ wd_378))
  obtain ⟨a0, b0, e0, f0, g0, h0⟩ := Cond.arrayClass_spec (hts _ (gx_tG_in _ wd_55))
  obtain ⟨a1, b1, e1, f1, g1, h1⟩ := Cond.arrayClass_spec (hts _ (gx_tG_in _ wd_56))
  obtain ⟨a2, b2, e2, f2, g2, h2⟩ := Cond.arrayClass_spec (hts _ (gx_tG_in _ wd_79))
  have hao := hts (.arrayOver (.object R_PS)) (List.mem_append_right _ (List.mem_of_getElem? (i := 58) (by decide +kernel)))
  obtain ⟨e3, a3, b3, f3, -, g3, h3, j3⟩ := Cond.arrayOver_spec hao
  refine ⟨((fun c => [c0, c1, c2, c3, c4, c5].getD c c0, fun c => [i0, i1, i2, i3, i4, i5].getD c i0), fun k => [a0, a1, a2, a3].getD k a0), ⟨fun c q hq => ?_, fun k q hq => ?_⟩, fun w hw => va_Nw.of (gx_nest_tab w hw) (hts w (gx_nest_in w hw)), va_AO.of hao⟩
  · have hc : c < 6 := (List.getElem?_eq_some_iff.mp hq).1
    rcases (show c = 0 ∨ c = 1 ∨ c = 2 ∨ c = 3 ∨ c = 4 ∨ c = 5 by omega) with rfl | rfl | rfl | rfl | rfl | rfl
    · cases hq; exact k0
    · cases hq; exact k1
    · cases hq; exact k2
    · cases hq; exact k3
    · cases hq; exact k4
    · cases hq; exact k5
  · have hc : k < 4 := (List.getElem?_eq_some_iff.mp hq).1
    rcases (show k = 0 ∨ k = 1 ∨ k = 2 ∨ k = 3 by omega) with rfl | rfl | rfl | rfl
    · cases hq; exact ⟨fun n z => ⟨fun k h => (by cases h), b0, g0, e0, h0⟩, f0⟩
    · cases hq; exact ⟨fun n z => ⟨fun k h => (by cases h), b1, g1, e1, h1⟩, f1⟩
    · cases hq; exact ⟨fun n z => ⟨fun k h => (by cases h), b2, g2, e2, h2⟩, f2⟩
    · cases hq; exact ⟨fun n z => ⟨fun k h => (by cases h), b3, g3, e3, h3⟩, b3, e3, g3, h3, f3, j3⟩
section LX
variable {p : Program} {l : Launch} {e : Env} {R : Room} {s : State} {m : MethodId} {args : Array Value} {below : List Frame} {meth : Method} {c : Code} {H : Heap} {locs : List Loc} {cells slots : Nat} {Q : State → Prop}
variable {pc : Nat} {ls : Array Slot} {rest : List Value} {g : gG} {w1 w2 : va_W} {A : Nat → Prop} {H0 : Heap} {st0 : List Value} {a : Array Value}
theorem lx_PL (h : va_P g.1 gx_cl (w1 ++ w2) H) : va_P g.1 gx_cl w1 H := fun k q hk => h k q (by rw [List.getElem?_append_left (List.getElem?_eq_some_iff.mp hk).1]; exact hk)
theorem lx_PR (h : va_P g.1 gx_cl (w1 ++ w2) H) : va_P g.1 gx_cl w2 H := fun k q hk => h (w1.length + k) q (by rw [List.getElem?_append_right (by omega), Nat.add_sub_cancel_left]; exact hk)
theorem lx_DL (h : va_D A (w1 ++ w2)) : va_D A w1 := ⟨fun i j p q hi hj hpq => h.1 i j p q (by rw [List.getElem?_append_left (List.getElem?_eq_some_iff.mp hi).1]; exact hi) (by rw [List.getElem?_append_left (List.getElem?_eq_some_iff.mp hj).1]; exact hj) hpq, fun k q hk => h.2 k q (by rw [List.getElem?_append_left (List.getElem?_eq_some_iff.mp hk).1]; exact hk)⟩
theorem lx_DR (h : va_D A (w1 ++ w2)) : va_D A w2 := ⟨fun i j p q hi hj hpq => by
    have := h.1 (w1.length + i) (w1.length + j) p q (by rw [List.getElem?_append_right (by omega), Nat.add_sub_cancel_left]; exact hi) (by rw [List.getElem?_append_right (by omega), Nat.add_sub_cancel_left]; exact hj) hpq
    omega, fun k q hk => h.2 (w1.length + k) q (by rw [List.getElem?_append_right (by omega), Nat.add_sub_cancel_left]; exact hk)⟩
theorem lx_DX (h : va_D A (w1 ++ w2)) : ∀ (i j : Nat) (p q : Nat × va_E), w1[i]? = some p → w2[j]? = some q → p.1 ≠ q.1 := by
  intro i j p q hi hj e
  have hl := (List.getElem?_eq_some_iff.mp hi).1
  have := h.1 i (w1.length + j) p q (by rw [List.getElem?_append_left hl]; exact hi) (by rw [List.getElem?_append_right (by omega), Nat.add_sub_cancel_left]; exact hj) e
  omega
/-- the left part changes, the right part stays -/
theorem lx_L {v1 : va_W} {H1 : Heap} (hP : va_P g.1 gx_cl (w1 ++ w2) H) (hD : va_D A (w1 ++ w2)) (hk : ∀ q : Nat, q < H.size → ¬ gx_in w1 q → H1[q]? = H[q]?) (hP1 : va_P g.1 gx_cl v1 H1) (hD1 : va_D (gx_in w1) v1) : va_P g.1 gx_cl (v1 ++ w2) H1 ∧ va_D A (v1 ++ w2) := by
  refine ⟨hP1.app (fun k q hq => (lx_PR hP k q hq).kept (hk q.1 (lx_PR hP k q hq).lt ?_)), (hD1.weaken (fun _ q _ h => gx_in_A (lx_DL hD) q.1 h)).app (lx_DR hD) ?_⟩
  · rintro ⟨i, x, hi⟩
    exact lx_DX hD i k _ q hi hq rfl
  · intro i j p q hi hj e
    obtain ⟨k, x, hk⟩ := hD1.2 i p hi
    exact lx_DX hD k j _ q hk hj e
theorem lx_R {v2 : va_W} {H1 : Heap} (hP : va_P g.1 gx_cl (w1 ++ w2) H) (hD : va_D A (w1 ++ w2)) (hk : ∀ q : Nat, q < H.size → ¬ gx_in w2 q → H1[q]? = H[q]?) (hP1 : va_P g.1 gx_cl v2 H1) (hD1 : va_D (gx_in w2) v2) : va_P g.1 gx_cl (w1 ++ v2) H1 ∧ va_D A (w1 ++ v2) := by
  refine ⟨va_P.app (fun k q hq => (lx_PL hP k q hq).kept (hk q.1 (lx_PL hP k q hq).lt ?_)) hP1, (lx_DL hD).app (hD1.weaken (fun _ q _ h => gx_in_A (lx_DR hD) q.1 h)) ?_⟩
  · rintro ⟨i, x, hi⟩
    exact lx_DX hD k i q _ hq hi rfl
  · intro i j p q hi hj e
    obtain ⟨k, x, hk⟩ := hD1.2 j q hj
    exact lx_DX hD i k p _ hi hk e
theorem lx_cwL {S : Type} {Wf : S → va_W} {post : Int32 → S → Prop} (hr : va_Run p l e R s m args below meth c H locs cells slots 0 0 (F0 m pc ls st0) rest (va_Qi post (fun u t => va_P g.1 gx_cl (Wf u) t.heap ∧ va_D (gx_in w1) (Wf u)) (gx_in w1) a) (gx_in w1)) (hP : va_P g.1 gx_cl (w1 ++ w2) H) (hD : va_D A (w1 ++ w2)) (hS : va_S A H0 H locs)
    (kk : ∀ (r : Int32) (u : S) (H1 : Heap) (locs1 : List Loc), post r u → va_P g.1 gx_cl (Wf u ++ w2) H1 → va_D A (Wf u ++ w2) → va_S A H0 H1 locs1 → W p l e R s m args below meth c H1 locs1 cells slots Q (F0 m (pc + 3) ls (.int r :: rest))) : W p l e R s m args below meth c H locs cells slots Q (F0 m pc ls st0) :=
  va_calli hr hS (fun q _ h => gx_in_A (lx_DL hD) q h) (gx_in_A (lx_DL hD)) (fun r u t H1 locs1 ht _ hp hB _ hk hS1 => by
    obtain ⟨h1, h2⟩ := lx_L hP hD hk (by rw [← ht]; exact hB.1) hB.2
    exact kk r u H1 locs1 hp h1 h2 hS1)
theorem lx_cwR {S : Type} {Wf : S → va_W} {post : Int32 → S → Prop} (hr : va_Run p l e R s m args below meth c H locs cells slots 0 0 (F0 m pc ls st0) rest (va_Qi post (fun u t => va_P g.1 gx_cl (Wf u) t.heap ∧ va_D (gx_in w2) (Wf u)) (gx_in w2) a) (gx_in w2)) (hP : va_P g.1 gx_cl (w1 ++ w2) H) (hD : va_D A (w1 ++ w2)) (hS : va_S A H0 H locs)
    (kk : ∀ (r : Int32) (u : S) (H1 : Heap) (locs1 : List Loc), post r u → va_P g.1 gx_cl (w1 ++ Wf u) H1 → va_D A (w1 ++ Wf u) → va_S A H0 H1 locs1 → W p l e R s m args below meth c H1 locs1 cells slots Q (F0 m (pc + 3) ls (.int r :: rest))) : W p l e R s m args below meth c H locs cells slots Q (F0 m pc ls st0) :=
  va_calli hr hS (fun q _ h => gx_in_A (lx_DR hD) q h) (gx_in_A (lx_DR hD)) (fun r u t H1 locs1 ht _ hp hB _ hk hS1 => by
    obtain ⟨h1, h2⟩ := lx_R hP hD hk (by rw [← ht]; exact hB.1) hB.2
    exact kk r u H1 locs1 hp h1 h2 hS1)
end LX
theorem lx_and31 (x : Int32) : ∃ j, j < 32 ∧ x &&& nI 31 = nI j := by
  refine ⟨x.toBitVec.toNat % 32, Nat.mod_lt _ (by decide), ?_⟩
  apply Int32.toBitVec_inj.mp
  apply BitVec.eq_of_toNat_eq
  show (x.toBitVec &&& (nI 31).toBitVec).toNat = (nI (x.toBitVec.toNat % 32)).toBitVec.toNat
  rw [BitVec.toNat_and]
  have e1 : (nI 31).toBitVec.toNat = 2 ^ 5 - 1 := by decide
  have e2 : (nI (x.toBitVec.toNat % 32)).toBitVec.toNat = x.toBitVec.toNat % 32 := by
    show (BitVec.ofNat 32 (x.toBitVec.toNat % 32)).toNat = _
    rw [BitVec.toNat_ofNat]
    exact Nat.mod_eq_of_lt (Nat.lt_of_lt_of_le (Nat.mod_lt _ (by decide)) (by decide))
  rw [e1, e2, Nat.and_two_pow_sub_one_eq_mod]
theorem lx_len {i L : Nat} (hi : i ≤ L) (hL : L ≤ 2560) (h : ¬ (nI L - nI 5 < nI i)) : i + 5 ≤ L := by
  by_cases h5 : 5 ≤ L
  · rw [pk_sub h5] at h
    have := Nat.not_lt.mp (fun q => h (nI_lt q (by omega)))
    omega
  · exfalso
    apply h
    rcases (show L = 0 ∨ L = 1 ∨ L = 2 ∨ L = 3 ∨ L = 4 by omega) with rfl | rfl | rfl | rfl | rfl
    all_goals
      refine Int32.lt_of_lt_of_le (b := 0) (by decide) ?_
      exact Int32.not_lt.mp (nI_pos (by omega))
theorem mt_CR_0 {f0 : Nat → Int64} (h : ∀ y, mt_el 1 f0 y ↔ y = 0) : mt_CR (fun _ _ => 0, 0, 0, va_up (fun _ => 0) 0 1, va_up (fun _ _ => 0) 0 f0) (0, fun _ => 0, fun _ => 0, fun _ => 0, fun _ => 0, fun _ => false) (0, fun _ => 0, fun _ => 0, fun _ => 0, fun _ => 0) := by
  refine ⟨rfl, rfl, by decide, fun t ht => absurd ht (by omega), fun t ht => absurd ht (by omega), fun t ht => absurd ht (by omega), fun t ht => absurd ht (by omega), fun j hj => ?_, by decide, fun t ht => absurd ht (by omega), fun t ht => absurd ht (by omega)⟩
  have hj0 : j = 0 := by omega
  subst hj0
  exact ⟨rfl, fun z => h z⟩
theorem mt_MR_0 : mt_MR (fun _ _ => 0, 0, 0, 0, 0, 0, fun _ => 0) (0, fun _ => 0, fun _ => 0, fun _ => 0, fun _ => 0, fun _ => false) (0, fun _ => 0, fun _ => 0, fun _ => 0, fun _ => 0) :=
  ⟨rfl, rfl, by decide, fun t ht => absurd ht (by omega), fun t ht => absurd ht (by omega), fun t ht => absurd ht (by omega), fun t ht => absurd ht (by omega), by decide, fun t ht => absurd ht (by omega), fun t ht => absurd ht (by omega), Nat.le_refl _, fun _ h => absurd h (by omega)⟩
