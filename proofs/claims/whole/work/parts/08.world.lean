/-! the class's cells: 16 of their own, 25 sets (0 .. 13 the rows, 14 starts, 15 ends, 16 crossed, 17 broken, 18 whole, 19 .. 21 firsts, 22 .. 24 seconds), each an object and an array -/
def mt_cp (k : Nat) : Nat := if k < 14 then mt_wd k else if k < 18 then mt_wd 13 else mt_wd 12
def cX (g : gG) (ad so : Nat → Nat) (I : Nat → Nat → Int32) (n v : Nat) : va_W :=
  [(ad 0, .inr (2, [.ref (ad 1), .ref (ad 7), .ref (so 14), .ref (so 15), .ref (so 16), .ref (so 17)])),
   (ad 1, .inr (1, [.ref (ad 2), .ref (ad 3), .ref (ad 4), .ref (ad 5), .ref (ad 6), .int (nI n)])),
   (ad 2, .inl (g.2 0, 13, .inl (I 0))), (ad 3, .inl (g.2 0, 13, .inl (I 1))), (ad 4, .inl (g.2 0, 13, .inl (I 2))), (ad 5, .inl (g.2 0, 13, .inl (I 3))), (ad 6, .inl (g.2 1, 13, .inl (I 4))),
   (ad 7, .inl (g.2 3, 14, .inr (.inr (.inr (.inr (fun i => some (so i))))))),
   (ad 8, .inr (3, [.ref (ad 9), .ref (ad 10), .ref (ad 11), .ref (ad 12), .int (nI v), .ref (so 18), .ref (ad 13), .ref (ad 14)])),
   (ad 9, .inl (g.2 0, 20, .inl (I 5))), (ad 10, .inl (g.2 0, 20, .inl (I 6))), (ad 11, .inl (g.2 0, 20, .inl (I 7))), (ad 12, .inl (g.2 0, 20, .inl (I 8))),
   (ad 13, .inl (g.2 3, 3, .inr (.inr (.inr (.inr (fun i => some (so (19 + i)))))))), (ad 14, .inl (g.2 3, 3, .inr (.inr (.inr (.inr (fun i => some (so (22 + i)))))))),
   (ad 15, .inr (4, [.ref (ad 0), .ref (ad 8)]))]
def cOf (so sw us : Nat → Nat) (k : Nat) : Nat × va_E := (so k, .inr (0, [.ref (sw k), .int (nI (us k)), .int (nI (64 * us k))]))
def cSf (g : gG) (sw : Nat → Nat) (ct : Nat → Nat → Int64) (k : Nat) : Nat × va_E := (sw k, .inl (g.2 2, mt_cp k, .inr (.inl (ct k))))
def cW (g : gG) (ad so sw : Nat → Nat) (I : Nat → Nat → Int32) (n v : Nat) (us : Nat → Nat) (ct : Nat → Nat → Int64) : va_W :=
  cX g ad so I n v ++ ((List.range 25).map (cOf so sw us) ++ (List.range 25).map (cSf g sw ct))
/-- a set by itself -/
def pW (g : gG) (o w cp u : Nat) (f : Nat → Int64) : va_W := [(o, .inr (0, [.ref w, .int (nI u), .int (nI (64 * u))])), (w, .inl (g.2 2, cp, .inr (.inl f)))]
section CW
variable {g : gG} {ad so sw : Nat → Nat} {I : Nat → Nat → Int32} {n v : Nat} {us : Nat → Nat} {ct : Nat → Nat → Int64} {k : Nat}
theorem cX_len : (cX g ad so I n v).length = 16 := rfl
theorem cw_o (hk : k < 25) : (cW g ad so sw I n v us ct)[16 + k]? = some (so k, .inr (0, [.ref (sw k), .int (nI (us k)), .int (nI (64 * us k))])) := by
  unfold cW
  rw [List.getElem?_append_right (by rw [cX_len]; omega), cX_len, Nat.add_sub_cancel_left, List.getElem?_append_left (by simp; exact hk), List.getElem?_map, List.getElem?_range hk]
  rfl
theorem cw_s (hk : k < 25) : (cW g ad so sw I n v us ct)[41 + k]? = some (sw k, .inl (g.2 2, mt_cp k, .inr (.inl (ct k)))) := by
  unfold cW
  rw [List.getElem?_append_right (by rw [cX_len]; omega), cX_len, List.getElem?_append_right (by simp; omega)]
  simp only [List.length_map, List.length_range]
  rw [show 41 + k - 16 - 25 = k by omega, List.getElem?_map, List.getElem?_range hk]
  rfl
theorem cw_pick {H : Heap} (hP : va_P g.1 gx_cl (cW g ad so sw I n v us ct) H) (hk : k < 25) : va_P g.1 gx_cl (pW g (so k) (sw k) (mt_cp k) (us k) (ct k)) H := by
  intro j q hj
  have hj2 : j < 2 := (List.getElem?_eq_some_iff.mp hj).1
  have h4 : j = 0 ∨ j = 1 := by omega
  rcases h4 with rfl | rfl
  · cases hj; exact hP _ _ (cw_o hk)
  · cases hj; exact hP _ _ (cw_s hk)
theorem cw_pickD {A : Nat → Prop} (hD : va_D A (cW g ad so sw I n v us ct)) (hk : k < 25) : va_D A (pW g (so k) (sw k) (mt_cp k) (us k) (ct k)) := by
  have key : ∀ (j : Nat) (q : Nat × va_E), (pW g (so k) (sw k) (mt_cp k) (us k) (ct k))[j]? = some q → (j < 2) ∧ (cW g ad so sw I n v us ct)[16 + k + 25 * j]? = some q := by
    intro j q hj
    have hj2 : j < 2 := (List.getElem?_eq_some_iff.mp hj).1
    have h4 : j = 0 ∨ j = 1 := by omega
    rcases h4 with rfl | rfl
    · cases hj; exact ⟨by omega, cw_o hk⟩
    · cases hj; exact ⟨by omega, by rw [show 16 + k + 25 * 1 = 41 + k by omega]; exact cw_s hk⟩
  refine ⟨fun i j p q hi hj hpq => ?_, fun j q hj => hD.2 _ q (key j q hj).2⟩
  have := hD.1 _ _ p q (key i p hi).2 (key j q hj).2 hpq
  omega
theorem mt_rset {α : Type} (f f' : Nat → α) (N : Nat) {j : Nat} (hj : j < N) (h : ∀ i, i ≠ j → f i = f' i) : ((List.range N).map f).set j (f' j) = (List.range N).map f' := by
  apply List.ext_getElem?
  intro i
  by_cases e : i = j
  · subst e
    rw [List.getElem?_set_self (by simp; exact hj), List.getElem?_map, List.getElem?_range hj]
    rfl
  · rw [List.getElem?_set_ne (Ne.symm e), List.getElem?_map, List.getElem?_map]
    by_cases c : i < N
    · rw [List.getElem?_range c]
      simp [h i e]
    · rw [List.getElem?_eq_none (by simp; omega)]
      rfl
theorem cw_put1 (hk : k < 25) (u' : Nat) : (cW g ad so sw I n v us ct).set (16 + k) (cOf so sw (va_up us k u') k) = cW g ad so sw I n v (va_up us k u') ct := by
  unfold cW
  rw [List.set_append_right _ _ (by rw [cX_len]; omega), cX_len, Nat.add_sub_cancel_left, List.set_append_left _ _ (by rw [List.length_map, List.length_range]; exact hk), mt_rset (cOf so sw us) (cOf so sw (va_up us k u')) 25 hk (fun i hi => by simp [cOf, va_up_ne _ _ hi])]
theorem cw_put2 (hk : k < 25) (f' : Nat → Int64) : (cW g ad so sw I n v us ct).set (41 + k) (cSf g sw (va_up ct k f') k) = cW g ad so sw I n v us (va_up ct k f') := by
  unfold cW
  rw [List.set_append_right _ _ (by rw [cX_len]; omega), cX_len, List.set_append_right _ _ (by rw [List.length_map, List.length_range]; omega), List.length_map, List.length_range, show 41 + k - 16 - 25 = k by omega, mt_rset (cSf g sw ct) (cSf g sw (va_up ct k f')) 25 hk (fun i hi => by simp [cSf, va_up_ne _ _ hi])]
theorem cw_put (hk : k < 25) (u' : Nat) (f' : Nat → Int64) : ((cW g ad so sw I n v us ct).set (16 + k) (so k, .inr (0, [.ref (sw k), .int (nI u'), .int (nI (64 * u'))]))).set (41 + k) (sw k, .inl (g.2 2, mt_cp k, .inr (.inl f'))) = cW g ad so sw I n v (va_up us k u') (va_up ct k f') := by
  have e1 : (so k, .inr (0, [.ref (sw k), .int (nI u'), .int (nI (64 * u'))])) = cOf so sw (va_up us k u') k := by simp [cOf, va_up_self]
  have e2 : (sw k, .inl (g.2 2, mt_cp k, .inr (.inl f'))) = cSf g sw (va_up ct k f') k := by simp [cSf, va_up_self]
  rw [e1, e2, cw_put1 hk, cw_put2 hk]
variable {p : Program} {l : Launch} {e : Env} {R : Room} {s : State} {m : MethodId} {args : Array Value} {below : List Frame} {meth : Method} {c : Code} {H : Heap} {locs : List Loc} {cells slots : Nat} {Q : State → Prop}
variable {pc : Nat} {ls : Array Slot} {rest st0 : List Value} {a : Array Value} {A : Nat → Prop} {H0 : Heap}
/-- behind a call that changes one set -/
theorem gc_cset {S : Type} {fu : S → Nat} {ff : S → Nat → Int64} {post : S → Prop} (hk : k < 25) (hr : va_Run p l e R s m args below meth c H locs cells slots 0 0 (F0 m pc ls st0) rest (va_Qv post (fun u t => va_P g.1 gx_cl (pW g (so k) (sw k) (mt_cp k) (fu u) (ff u)) t.heap ∧ va_D (gx_in (pW g (so k) (sw k) (mt_cp k) (us k) (ct k))) (pW g (so k) (sw k) (mt_cp k) (fu u) (ff u))) (gx_in (pW g (so k) (sw k) (mt_cp k) (us k) (ct k))) a) (gx_in (pW g (so k) (sw k) (mt_cp k) (us k) (ct k)))) (hP : va_P g.1 gx_cl (cW g ad so sw I n v us ct) H) (hD : va_D A (cW g ad so sw I n v us ct)) (hS : va_S A H0 H locs)
    (kk : ∀ (u : S) (H1 : Heap) (locs1 : List Loc), post u → va_P g.1 gx_cl (cW g ad so sw I n v (va_up us k (fu u)) (va_up ct k (ff u))) H1 → va_D A (cW g ad so sw I n v (va_up us k (fu u)) (va_up ct k (ff u))) → va_S A H0 H1 locs1 → W p l e R s m args below meth c H1 locs1 cells slots Q (F0 m (pc + 3) ls rest)) : W p l e R s m args below meth c H locs cells slots Q (F0 m pc ls st0) := by
  have hDp := cw_pickD hD hk
  refine va_callv hr hS (fun q _ h => gx_in_A hDp q h) (gx_in_A hDp) (fun u t H1 locs1 ht _ hp hB _ hkp hS1 => ?_)
  obtain ⟨h1, h2⟩ := gx_two (i := 16 + k) (j := 41 + k) (e1 := .inr (0, [.ref (sw k), .int (nI (fu u)), .int (nI (64 * fu u))])) (f1 := .inl (g.2 2, mt_cp k, .inr (.inl (ff u)))) hP hD (cw_o hk) (cw_s hk) (by omega) hkp (by rw [← ht]; exact hB.1)
  rw [cw_put hk] at h1 h2
  exact kk u H1 locs1 hp h1 h2 hS1
end CW
