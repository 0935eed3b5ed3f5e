/-- a type is entered in the tables -/
def mt_IN (I : Nat → Nat → Int32) (n kk x y d : Nat) (z : Bool) (J : Nat → Nat → Int32) : Prop := (∀ j t, (t ≠ n ∨ 5 ≤ j) → J j t = I j t) ∧ J 0 n = nI kk ∧ J 1 n = nI x ∧ J 2 n = nI y ∧ J 3 n = nI d ∧ J 4 n = mt_b z
theorem mt_IN_of {I : Nat → Nat → Int32} {n kk x y d : Nat} {z : Bool} : mt_IN I n kk x y d z (va_up (va_up (va_up (va_up (va_up I 0 (upd (I 0) n (nI kk))) 1 (upd (I 1) n (nI x))) 2 (upd (I 2) n (nI y))) 3 (upd (I 3) n (nI d))) 4 (upd (I 4) n (mt_b z))) := by
  refine ⟨fun j t h => ?_, pk_us, pk_us, pk_us, pk_us, pk_us⟩
  by_cases e4 : j = 4
  · subst e4; rw [va_up_self]; exact pk_un (by omega)
  · rw [va_up_ne _ _ e4]
    by_cases e3 : j = 3
    · subst e3; rw [va_up_self]; exact pk_un (by omega)
    · rw [va_up_ne _ _ e3]
      by_cases e2 : j = 2
      · subst e2; rw [va_up_self]; exact pk_un (by omega)
      · rw [va_up_ne _ _ e2]
        by_cases e1 : j = 1
        · subst e1; rw [va_up_self]; exact pk_un (by omega)
        · rw [va_up_ne _ _ e1]
          by_cases e0 : j = 0
          · subst e0; rw [va_up_self]; exact pk_un (by omega)
          · rw [va_up_ne _ _ e0]
theorem mt_TE_3 {I : Nat → Nat → Int32} {n : Nat} {dp : Nat → Nat} {fc : Nat → Bool} {x : Int32} (h : mt_TE I n dp fc) : mt_TE (va_up I 3 (upd (I 3) n x)) n dp fc := by
  intro t ht
  obtain ⟨h1, h2⟩ := h t ht
  exact ⟨(pk_un (by omega)).trans h1, h2⟩
theorem mt_TR_add {I J : Nat → Nat → Int32} {n kk x y d : Nat} {z : Bool} {k a b : Nat → Nat} (hJ : mt_IN I n kk x y d z J) (hT : mt_TR I n k a b) (hk : k n = kk) (ha : a n = x) (hb : kk ≠ 0 → b n = y) : mt_TR J (n + 1) k a b := by
  intro t ht
  by_cases e : t = n
  · subst e
    exact ⟨by rw [hJ.2.1, hk], by rw [hJ.2.2.1, ha], fun h => by rw [hJ.2.2.2.1, hb (by rw [← hk]; exact h)]⟩
  · have h0 := hJ.1 0 t (Or.inl e)
    have h1 := hJ.1 1 t (Or.inl e)
    have h2 := hJ.1 2 t (Or.inl e)
    rw [h0, h1, h2]
    exact hT t (by omega)
/-- the rows up to n hold the profiles that elements have -/
def mt_RW (us : Nat → Nat) (ct : Nat → Nat → Int64) (n : Nat) (k a b : Nat → Nat) : Prop := ∀ j, j ≤ n → us j = mt_wd j ∧ ∀ z, mt_el (us j) (ct j) z ↔ mt_R k a b j z
theorem mt_cstep {w ci : Nat} {f f' : Nat → Int64} {F : Nat → Nat} (h : ∀ z, mt_el w f z ↔ ∃ j, j < ci ∧ z = F j) (h1 : ∀ z, mt_el w f' z ↔ (mt_el w f z ∨ z = F ci)) (z : Nat) : mt_el w f' z ↔ ∃ j, j < ci + 1 ∧ z = F j := by
  rw [h1, h]
  constructor
  · intro h2
    rcases h2 with ⟨j, h3, h4⟩ | h2
    · exact ⟨j, by omega, h4⟩
    · exact ⟨ci, by omega, h2⟩
  · rintro ⟨j, h3, h4⟩
    by_cases e : j = ci
    · subst e; exact Or.inr h4
    · exact Or.inl ⟨j, by omega, h4⟩
theorem mt_Rrow {k a b : Nat → Nat} {n : Nat} {S T0 T1 T2 : Nat → Prop} (hS : ∀ z, S z ↔ mt_R k a b n z) (h0 : ∀ z, T0 z ↔ ∃ j, j < 6 ∧ z = mt_pf k a b (mt_rc k a j) (n + 1)) (h1 : ∀ z, T1 z ↔ (T0 z ∨ ∃ x y, S x ∧ S y ∧ z = mt_pf k a b (mt_rp k a b x y) (n + 1))) (h2 : ∀ z, T2 z ↔ (T1 z ∨ ∃ bf, mt_BF a b S bf ∧ z = mt_pf k a b (mt_rf k bf) (n + 1))) (z : Nat) : T2 z ↔ mt_R k a b (n + 1) z := by
  have e : S = mt_R k a b n := funext fun q => propext (hS q)
  subst e
  rw [h2, h1, h0, or_assoc]
  exact Iff.rfl
