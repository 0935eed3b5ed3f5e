/-! births -/
def gc_NI {S : Type} (l : Launch) (y : MethodName) (wsY : List Cond) (fr lo mc ms : Nat) (g : gG) (av : List Value) (c0 : Nat × va_E) (Wf : S → va_W) (post : S → Prop) (sz : Nat) : Prop :=
  Met l y wsY { frames := fr, cells := mc, slots := ms, locals := lo } (va_Pc av (fun U => (U.heap.size = sz ∧ va_P g.1 gx_cl [c0] U.heap ∧ gx_ok g U) ∧ va_D (fun _ => True) [c0])) (va_Qv post (fun u t => va_P g.1 gx_cl (Wf u) t.heap ∧ va_D (va_A [c0] sz) (Wf u)) (va_A [c0] sz)) mc ms (va_A [c0] sz)
abbrev gO (o w u : Nat) : Nat × va_E := (o, .inr (0, [.ref w, .int (nI u), .int (nI (64 * u))]))
abbrev gL (g : gG) (w cp : Nat) (f : Nat → Int64) : Nat × va_E := (w, .inl (g.2 2, cp, .inr (.inl f)))
abbrev gI (g : gG) (a n : Nat) (f : Nat → Int32) : Nat × va_E := (a, .inl (g.2 0, n, .inl f))
abbrev gZ (g : gG) (a n : Nat) (f : Nat → Int32) : Nat × va_E := (a, .inl (g.2 1, n, .inl f))
abbrev gQ (g : gG) (a n : Nat) (f : Nat → Option Nat) : Nat × va_E := (a, .inl (g.2 3, n, .inr (.inr (.inr (.inr f)))))
abbrev gJ (a ci : Nat) (fs : List Value) : Nat × va_E := (a, .inr (ci, fs))
theorem gx_uP {s : State} {ty : FieldType} {c1 c2 : ClassId} (h1 : va_RA s c1 ty) (h2 : va_RA s c2 ty) : c1 = c2 := by
  cases ty with
  | object C =>
    obtain ⟨_, _, _, _, _, h1⟩ := h1
    obtain ⟨_, _, _, _, _, h2⟩ := h2
    exact Option.some.inj (h1.symm.trans h2)
  | _ => exact Option.some.inj (h1.symm.trans h2)
section GN
variable {p : Program} {l : Launch} {e : Env} {R : Room} {s : State} {m : MethodId} {args : Array Value} {below : List Frame} {meth : Method} {c : Code} {H : Heap} {locs : List Loc} {cells slots : Nat} {Q : State → Prop}
variable {cc : ByteArray} {pc : Nat} {ls : Array Slot} {rest : List Value} {g : gG} {ws : va_W} {A : Nat → Prop} {H0 : Heap} {st0 : List Value} {a : Array Value}
/-- a new array, of the class that such arrays have -/
theorem gx_newa (k : Nat) (hexec : p.tables.exec = Jvm.exec) (hb : c.code = cc) {atype : ArrayType} {ty : FieldType} (harr : (Cond.arrayClass ty).before args s = true) (hty : newarray.typeOf atype = ty) (hG : gx_ok g s) {cB : ClassId} (hk : (gx_tys g)[k]? = some (cB, ty)) (hP : va_P g.1 gx_cl ws H) (hD : va_D A ws) (hS : va_S A H0 H locs) (hA : ∀ q, H0.size ≤ q → A q)
    {n : Int32} {N' : Nat} {a0 : vp_A} (ha : ∀ cA : ClassId, vp_cell cA a0 = arrV cA N' (fun _ => defaultValue ty)) (hn : ¬ n < 0) (hN : n.toNatClampNeg = N') (hbytes : N' * componentBytes ty ≤ 536870912) (hcells : cells + 1 ≤ R.cells) (hslots : slots + N' ≤ R.slots) (hdg : decode cc pc = .ok (.newarray atype, 2))
    (kk : ∀ (q : Nat) (H1 : Heap), va_P g.1 gx_cl (ws ++ [(q, .inl (cB, a0))]) H1 → va_D A (ws ++ [(q, .inl (cB, a0))]) → va_S A H0 H1 locs →
      W p l e R s m args below meth c H1 locs (cells + 1) (slots + N') Q (F0 m (pc + 2) ls (.ref q :: rest))) : W p l e R s m args below meth c H locs cells slots Q (F0 m pc ls (.int n :: rest)) := by
  subst hty
  refine va_newa hexec hb harr rfl hG.1 hP hD hS hA ha hn hN hbytes hcells hslots hdg (fun q cA H1 hK1 hP1 hD1 hS1 => ?_)
  have e1 : cA = cB := gx_uP (hK1.2 4 (cA, _) rfl).2 (hG.1.2 k _ hk).2
  subst e1
  exact kk q H1 hP1 hD1 hS1
theorem gx_newq (hexec : p.tables.exec = Jvm.exec) (hb : c.code = cc) {own : String} {index : Nat} (hown : s.vm.findClass own = some m.cls) (hclink : (Cond.classLink own index R_PS).before args s = true) (hG : gx_ok g s) (hP : va_P g.1 gx_cl ws H) (hD : va_D A ws) (hS : va_S A H0 H locs) (hA : ∀ q, H0.size ≤ q → A q)
    {n : Int32} {N' : Nat} (hn : ¬ n < 0) (hN : n.toNatClampNeg = N') (hbytes : N' * 4 ≤ 536870912) (hcells : cells + 1 ≤ R.cells) (hslots : slots + N' ≤ R.slots) (hdg : decode cc pc = .ok (.anewarray index, 3))
    (kk : ∀ (q : Nat) (H1 : Heap), va_P g.1 gx_cl (ws ++ [(q, .inl (g.2 3, N', .inr (.inr (.inr (.inr (fun _ => none))))))]) H1 → va_D A (ws ++ [(q, .inl (g.2 3, N', .inr (.inr (.inr (.inr (fun _ => none))))))]) → va_S A H0 H1 locs →
      W p l e R s m args below meth c H1 locs (cells + 1) (slots + N') Q (F0 m (pc + 3) ls (.ref q :: rest))) : W p l e R s m args below meth c H locs cells slots Q (F0 m pc ls (.int n :: rest)) := by
  refine va_newq hexec hb hown hclink hG.2.2 hG.1 hP hD hS hA hn hN hbytes hcells hslots hdg (fun q cA H1 hK1 hP1 hD1 hS1 => ?_)
  have e1 : cA = g.2 3 := gx_uP (hK1.2 4 (cA, _) rfl).2 (hG.1.2 3 (g.2 3, _) rfl).2
  subst e1
  exact kk q H1 hP1 hD1 hS1
theorem gc_blindN {av : List Value} {c0 : Nat × va_E} {sz : Nat} : FrameBlind (va_Pc av (fun U => (U.heap.size = sz ∧ va_P g.1 gx_cl [c0] U.heap ∧ gx_ok g U) ∧ va_D (fun _ => True) [c0])) := gc_preB fun U f mk h => ⟨⟨h.1.1, h.1.2.1, gx_ok.same (s := U) rfl h.1.2.2⟩, h.2⟩
/-- the last cell of the world is the new object -/
theorem gc_preN {av : List Value} {c0 : Nat × va_E} (hP : va_P g.1 gx_cl (ws ++ [c0]) H) (hG : gx_ok g s) : PreS s H (va_Pc av (fun U => (U.heap.size = H.size ∧ va_P g.1 gx_cl [c0] U.heap ∧ gx_ok g U) ∧ va_D (fun _ => True) [c0])) av := by
  refine ⟨gc_blindN, fun U hU hW => ⟨rfl, ⟨by rw [hU], ?_, hG.warm hW⟩, ?_⟩⟩
  · rw [hU]
    intro k q hk
    have hz : k < 1 := (List.getElem?_eq_some_iff.mp hk).1
    rw [show k = 0 by omega] at hk
    cases hk
    exact hP ws.length _ (by rw [List.getElem?_append_right (Nat.le_refl _), Nat.sub_self]; rfl)
  · refine ⟨fun i j p q hi hj _ => ?_, fun _ _ _ => trivial⟩
    have h1 : i < 1 := (List.getElem?_eq_some_iff.mp hi).1
    have h2 : j < 1 := (List.getElem?_eq_some_iff.mp hj).1
    omega
/-- behind the call of a constructor on the last cell: what it made stands in its place -/
theorem gc_cnew {S : Type} {Wf : S → va_W} {post : S → Prop} {c0 : Nat × va_E} {mc ms : Nat} (hr : va_Run p l e R s m args below meth c H locs cells slots mc ms (F0 m pc ls st0) rest (va_Qv post (fun u t => va_P g.1 gx_cl (Wf u) t.heap ∧ va_D (va_A [c0] H.size) (Wf u)) (va_A [c0] H.size) a) (va_A [c0] H.size)) (hP : va_P g.1 gx_cl (ws ++ [c0]) H) (hD : va_D A (ws ++ [c0])) (hS : va_S A H0 H locs) (hA : ∀ q, H0.size ≤ q → A q)
    (kk : ∀ (u : S) (H1 : Heap) (locs1 : List Loc), post u → va_P g.1 gx_cl (ws ++ Wf u) H1 → va_D A (ws ++ Wf u) → va_S A H0 H1 locs1 → W p l e R s m args below meth c H1 locs1 (cells + mc) (slots + ms) Q (F0 m (pc + 3) ls rest)) : W p l e R s m args below meth c H locs cells slots Q (F0 m pc ls st0) := by
  have hlast : (ws ++ [c0])[ws.length]? = some c0 := by rw [List.getElem?_append_right (Nat.le_refl _), Nat.sub_self]; rfl
  have hF : ∀ q, va_A [c0] H.size q → A q := by
    rintro q (⟨k, x, hk⟩ | h)
    · have hz : k < 1 := (List.getElem?_eq_some_iff.mp hk).1
      rw [show k = 0 by omega] at hk
      cases hk
      exact hD.2 _ _ hlast
    · exact hA q (Nat.le_trans hS.1 h)
  have hl : ∀ (k : Nat) (q : Nat × va_E), ws[k]? = some q → (ws ++ [c0])[k]? = some q ∧ k < ws.length := fun k q hk => by
    have := (List.getElem?_eq_some_iff.mp hk).1
    exact ⟨by rw [List.getElem?_append_left this]; exact hk, this⟩
  have hne : ∀ (k : Nat) (q : Nat × va_E), ws[k]? = some q → ¬ va_A [c0] H.size q.1 := by
    intro k q hk
    obtain ⟨h1, h2⟩ := hl k q hk
    rintro (⟨j, x, hj⟩ | h)
    · have hz : j < 1 := (List.getElem?_eq_some_iff.mp hj).1
      rw [show j = 0 by omega] at hj
      cases hj
      have := hD.1 _ _ _ _ h1 hlast rfl
      omega
    · have := (hP k q h1).lt
      omega
  refine va_callv hr hS (fun q _ h => hF q h) hF (fun u t H1 locs1 ht _ hp hB hz hk hS1 => ?_)
  refine kk u H1 locs1 hp (va_P.app (fun k q hq => (hP k q (hl k q hq).1).kept (hk q.1 ((hP k q (hl k q hq).1).lt) (hne k q hq))) (by rw [← ht]; exact hB.1)) (va_D.app ⟨fun i j p q hi hj h => hD.1 i j p q (hl i p hi).1 (hl j q hj).1 h, fun k q hk => hD.2 k q (hl k q hk).1⟩ (hB.2.weaken (fun _ q _ h => hF q.1 h)) ?_) hS1
  intro i j p q hi hj h
  refine hne i p hi ?_
  rw [h]
  exact hB.2.2 j q hj
theorem gc_retn {S : Type} {u : S} {Wf : S → va_W} {post : S → Prop} (hx : p.tables.exec = Jvm.exec) (hb : c.code = cc) (hr : meth.sig.returnType = none) (hlk : meth.locks = false) (hp : post u) (hP : va_P g.1 gx_cl (Wf u) H) (hD : va_D A (Wf u)) (hS : va_S A s.heap H locs) (hdg : decode cc pc = .ok (.return_, 1)) : W p l e R s m args below meth c H locs cells slots (MQ below (va_Qv post (fun u t => va_P g.1 gx_cl (Wf u) t.heap ∧ va_D A (Wf u)) A) args s cells slots A) (F0 m pc ls []) :=
  W.vret hx hb hr (fun t ht _ => ⟨⟨u, rfl, hp, by rw [ht]; exact hP, hD⟩, hS.F ht⟩) hS.2.2 hdg hlk
/-- behind a call that changes one set of a world -/
theorem gc_cone {S : Type} {fu : S → Nat} {ff : S → Nat → Int64} {post : S → Prop} {i j o w cp u0 : Nat} {f0 : Nat → Int64} (hi : ws[i]? = some (gO o w u0)) (hj : ws[j]? = some (gL g w cp f0)) (hij : i ≠ j) (hDp : va_D A (pW g o w cp u0 f0)) (hr : va_Run p l e R s m args below meth c H locs cells slots 0 0 (F0 m pc ls st0) rest (va_Qv post (fun u t => va_P g.1 gx_cl (pW g o w cp (fu u) (ff u)) t.heap ∧ va_D (gx_in (pW g o w cp u0 f0)) (pW g o w cp (fu u) (ff u))) (gx_in (pW g o w cp u0 f0)) a) (gx_in (pW g o w cp u0 f0))) (hP : va_P g.1 gx_cl ws H) (hD : va_D A ws) (hS : va_S A H0 H locs)
    (kk : ∀ (u : S) (H1 : Heap) (locs1 : List Loc), post u → va_P g.1 gx_cl ((ws.set i (gO o w (fu u))).set j (gL g w cp (ff u))) H1 → va_D A ((ws.set i (gO o w (fu u))).set j (gL g w cp (ff u))) → va_S A H0 H1 locs1 → W p l e R s m args below meth c H1 locs1 cells slots Q (F0 m (pc + 3) ls rest)) : W p l e R s m args below meth c H locs cells slots Q (F0 m pc ls st0) := by
  refine va_callv hr hS (fun q _ h => gx_in_A hDp q h) (gx_in_A hDp) (fun u t H1 locs1 ht _ hp hB _ hkp hS1 => ?_)
  obtain ⟨h1, h2⟩ := gx_two (i := i) (j := j) (e1 := (gO o w (fu u)).2) (f1 := (gL g w cp (ff u)).2) hP hD hi hj hij hkp (by rw [← ht]; exact hB.1)
  exact kk u H1 locs1 hp h1 h2 hS1
end GN
/-- an array holds what its elements are -/
theorem gx_arrq {g : gG} {ws : va_W} {H : Heap} {k a n : Nat} {f f' : Nat → Option Nat} (hP : va_P g.1 gx_cl ws H) (hk : ws[k]? = some (gQ g a n f)) (he : ∀ j, j < n → f j = f' j) : va_P g.1 gx_cl (ws.set k (gQ g a n f')) H := by
  intro i q hi
  have hl := (List.getElem?_eq_some_iff.mp hk).1
  by_cases e : i = k
  · subst e
    rw [List.getElem?_set_self hl] at hi
    cases hi
    have h1 := hP i _ hk
    show H[a]? = some (vp_cell _ _)
    have h2 : H[a]? = some (vp_cell (g.2 3) (n, .inr (.inr (.inr (.inr f))))) := h1
    rw [h2, vp_cell_q, vp_cell_q]
    unfold arrV
    congr 2
    apply congrArg
    funext j
    show va_rf (f j.val) = va_rf (f' j.val)
    rw [he j.val j.isLt]
  · rw [List.getElem?_set_ne (Ne.symm e)] at hi
    exact hP i q hi
theorem gx_Dset {A : Nat → Prop} {ws : va_W} {k a : Nat} {e0 e1 : va_E} (hD : va_D A ws) (hk : ws[k]? = some (a, e0)) : va_D A (ws.set k (a, e1)) := hD.set hk
theorem gx_Dp {A : Nat → Prop} {ws ws' : va_W} {g : gG} {i j o w cp u0 : Nat} {f0 : Nat → Int64} (hD : va_D A ws) (hi : ws[i]? = some (gO o w u0)) (hj : ws[j]? = some (gL g w cp f0)) (hij : i ≠ j) : va_D A (pW g o w cp u0 f0) := by
  refine va_D.sub hD [i, j] ?_ ?_
  · simp [va_nd, hij]
  · simp only [List.map_cons, List.map_nil, hi, hj]
    rfl
