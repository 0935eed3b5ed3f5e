def mW (g : gG) (md : Nat → Nat) (J : Nat → Nat → Int32) (n v kn pr ar : Nat) (X : Nat → Int64) : va_W :=
  [(md 0, .inr (5, [.int (nI n), .ref (md 1), .ref (md 2), .ref (md 3), .ref (md 4), .ref (md 5), .int (nI v), .ref (md 6), .ref (md 7), .ref (md 8), .ref (md 9), .ref (md 10), .int (nI kn), .int (nI pr), .int (nI ar), .ref (md 11)])),
   (md 1, .inl (g.2 0, 13, .inl (J 0))), (md 2, .inl (g.2 0, 13, .inl (J 1))), (md 3, .inl (g.2 0, 13, .inl (J 2))), (md 4, .inl (g.2 0, 13, .inl (J 3))), (md 5, .inl (g.2 1, 13, .inl (J 4))),
   (md 6, .inl (g.2 0, 20, .inl (J 5))), (md 7, .inl (g.2 0, 20, .inl (J 6))), (md 8, .inl (g.2 0, 20, .inl (J 7))), (md 9, .inl (g.2 0, 20, .inl (J 8))),
   (md 10, .inl (g.2 2, 3456, .inr (.inl X))), (md 11, .inl (g.2 0, 13, .inl (J 9)))]
/-- bit i of the reference's set number c -/
def mt_ms (X : Nat → Int64) (c i : Nat) : Bool := mt_lb (X (128 * c + i / 64)) (i % 64)
theorem mt_ms_t {X : Nat → Int64} {s c i : Nat} (hs : s = 128 * c) (h : (if mt_lb (X (s + i / 64)) (i % 64) then (1 : Int64) else 0) = 1) : mt_ms X c i = true := by
  subst hs
  unfold mt_ms
  cases e : mt_lb (X (128 * c + i / 64)) (i % 64)
  · rw [e] at h; exact absurd h (by decide)
  · rfl
theorem mt_ms_f {X : Nat → Int64} {s c i : Nat} (hs : s = 128 * c) (h : (if mt_lb (X (s + i / 64)) (i % 64) then (1 : Int64) else 0) ≠ 1) : mt_ms X c i = false := by
  subst hs
  unfold mt_ms
  cases e : mt_lb (X (128 * c + i / 64)) (i % 64)
  · rfl
  · rw [e] at h; exact absurd rfl h
/-- i comes into set c, nothing else changes -/
def mt_pt (X Y : Nat → Int64) (c i : Nat) : Prop := ∀ c' i', i' < 8192 → mt_ms Y c' i' = (mt_ms X c' i' || decide (c' = c ∧ i' = i))
theorem mt_pt_of {X : Nat → Int64} {s c i : Nat} (hs : s = 128 * c) (hi : i < 8192) : mt_pt X (vp_updL X (s + i / 64) (X (s + i / 64) ||| ((1 : Int64) <<< ((nI (i % 64)).toInt64 &&& 63)))) c i := by
  intro c' i' hi'
  subst hs
  unfold mt_ms vp_updL
  by_cases h : 128 * c' + i' / 64 = 128 * c + i / 64
  · rw [if_pos h, mt_lb_or, mt_lb_shl (i % 64) (Nat.mod_lt _ (by decide)) (i' % 64) (Nat.mod_lt _ (by decide)), h]
    congr 1
    rw [decide_eq_decide]
    omega
  · rw [if_neg h, decide_eq_false (by omega), Bool.or_false]
def mt_clr (X Y : Nat → Int64) (c : Nat) : Prop := ∀ c' i', i' < 8192 → mt_ms Y c' i' = (mt_ms X c' i' && !decide (c' = c))
theorem mt_clr_s {X X1 : Nat → Int64} {s c i : Nat} (hs : s = 128 * c) (hz : ∀ j, X1 j = if 128 * c ≤ j ∧ j < 128 * c + i then 0 else X j) (j : Nat) : vp_updL X1 (s + i) 0 j = if 128 * c ≤ j ∧ j < 128 * c + (i + 1) then 0 else X j := by
  subst hs
  unfold vp_updL
  by_cases e : j = 128 * c + i
  · rw [if_pos e, if_pos (by omega)]
  · rw [if_neg e, hz]
    by_cases h : 128 * c ≤ j ∧ j < 128 * c + i
    · rw [if_pos h, if_pos (by omega)]
    · rw [if_neg h, if_neg (by omega)]
theorem mt_clr_of {X Y : Nat → Int64} {c : Nat} (hz : ∀ j, Y j = if 128 * c ≤ j ∧ j < 128 * c + 128 then 0 else X j) : mt_clr X Y c := by
  intro c' i' hi'
  unfold mt_ms
  rw [hz]
  by_cases e : c' = c
  · subst e
    rw [if_pos (by omega), mt_lb_0]
    simp
  · rw [if_neg (by omega)]
    simp [e]
/-- the reference's tables -/
def mt_MT (J : Nat → Nat → Int32) (n : Nat) (k a b : Nat → Nat) : Prop := ∀ t, t < n → J 0 t = nI (k t) ∧ J 1 t = nI (a t) ∧ J 2 t = nI (b t)
def mt_MV (J : Nat → Nat → Int32) (v : Nat) (vk va vb vl : Nat → Nat) : Prop := ∀ i, i < v → J 5 i = nI (vk i) ∧ J 6 i = nI (va i) ∧ J 7 i = nI (vb i) ∧ J 8 i = nI (vl i)
def mt_pl (k : Nat → Nat) (t : Nat) : Nat := if k t = 1 then mt_ct k 1 t else mt_ct k 2 t
def mt_NU (J : Nat → Nat → Int32) (pr ar n : Nat) (k : Nat → Nat) : Prop := pr = mt_ct k 1 n ∧ ar = mt_ct k 2 n ∧ ∀ t, t < n → J 9 t = nI (mt_pl k t)
theorem mt_pl_le {k : Nat → Nat} (t : Nat) : mt_pl k t ≤ t := by
  unfold mt_pl
  split <;> exact mt_ct_n t
theorem mt_pf_t {k a b : Nat → Nat} {r : Nat → Bool} {i x : Nat} (hx : x = mt_pf k a b r i) (h : mt_in k a b r i x = true) : x ||| 2 ^ i = mt_pf k a b r (i + 1) := by
  subst hx
  simp only [mt_pf, h, if_true]
theorem mt_pf_f {k a b : Nat → Nat} {r : Nat → Bool} {i x : Nat} (hx : x = mt_pf k a b r i) (h : mt_in k a b r i x = false) : x = mt_pf k a b r (i + 1) := by
  subst hx
  simp [mt_pf, h]
