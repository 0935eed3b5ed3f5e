/-! walks over a set: what is done for the members below the cursor -/
def mt_cu (S : Nat → Prop) (e q : Nat) : Prop := q ≤ e ∧ (q < e → S q)
theorem mt_nx_cu {S : Nat → Prop} {e i q : Nat} (h : mt_nx S e i q) : mt_cu S e q := ⟨h.2.1, h.2.2.2⟩
def mt_mp (S : Nat → Prop) (Rl : Nat → Nat → Prop) (Bz : Nat → Prop) (q : Nat) (T : Nat → Prop) : Prop := ∀ z, T z ↔ (Bz z ∨ ∃ x, (x < q ∧ S x) ∧ Rl x z)
theorem mt_mp_0 {S : Nat → Prop} {Rl : Nat → Nat → Prop} {Bz T : Nat → Prop} {e q : Nat} (hn : mt_nx S e 0 q) (h : ∀ z, T z ↔ Bz z) : mt_mp S Rl Bz q T := by
  intro z
  rw [h]
  constructor
  · exact Or.inl
  · intro h1
    rcases h1 with h1 | ⟨x, h2, -⟩
    · exact h1
    · exact absurd h2 (mt_nx_0 hn x)
theorem mt_mp_s {S : Nat → Prop} {Rl : Nat → Nat → Prop} {Bz T T' : Nat → Prop} {e q q' : Nat} (h : mt_mp S Rl Bz q T) (hS : S q) (hn : mt_nx S e (q + 1) q') (hT : ∀ z, T' z ↔ (T z ∨ Rl q z)) : mt_mp S Rl Bz q' T' := by
  intro z
  rw [hT, h]
  constructor
  · intro h1
    rcases h1 with (h1 | ⟨x, h2, h3⟩) | h1
    · exact Or.inl h1
    · exact Or.inr ⟨x, (mt_nx_s hn hS x).mpr (Or.inl h2), h3⟩
    · exact Or.inr ⟨q, (mt_nx_s hn hS q).mpr (Or.inr rfl), h1⟩
  · intro h1
    rcases h1 with h1 | ⟨x, h2, h3⟩
    · exact Or.inl (Or.inl h1)
    · rcases (mt_nx_s hn hS x).mp h2 with h4 | h4
      · exact Or.inl (Or.inr ⟨x, h4, h3⟩)
      · subst h4; exact Or.inr h3
theorem mt_mp_e {u : Nat} {f : Nat → Int64} {Rl : Nat → Nat → Prop} {Bz T : Nat → Prop} {q : Nat} (h : mt_mp (mt_el u f) Rl Bz q T) (he : 64 * u ≤ q) (z : Nat) : T z ↔ (Bz z ∨ ∃ x, mt_el u f x ∧ Rl x z) := by
  rw [h]
  constructor
  · intro h1
    rcases h1 with h1 | ⟨x, h2, h3⟩
    · exact Or.inl h1
    · exact Or.inr ⟨x, h2.2, h3⟩
  · intro h1
    rcases h1 with h1 | ⟨x, h2, h3⟩
    · exact Or.inl h1
    · exact Or.inr ⟨x, ⟨by have := h2.1; omega, h2⟩, h3⟩
theorem mt_none {T : Nat → Prop} (h : ∀ z, ¬ T z) (z : Nat) : T z ↔ False := ⟨fun q => h z q, fun q => q.elim⟩
theorem mt_no {T : Nat → Prop} (A : Prop) (hA : ¬ A) (z : Nat) : T z ↔ (T z ∨ A) := ⟨Or.inl, fun q => q.elim id (fun q => absurd q hA)⟩
section CE
variable {g : gG} {ad so sw : Nat → Nat} {I : Nat → Nat → Int32} {n v : Nat} {us : Nat → Nat} {ct : Nat → Nat → Int64} {k u : Nat} {f : Nat → Int64}
theorem cw_oE (hk : k < 25) (hu : us k = u) : (cW g ad so sw I n v us ct)[16 + k]? = some (so k, .inr (0, [.ref (sw k), .int (nI u), .int (nI (64 * u))])) := by rw [← hu]; exact cw_o hk
theorem cw_pickE {H : Heap} (hP : va_P g.1 gx_cl (cW g ad so sw I n v us ct) H) (hk : k < 25) (hu : us k = u) (hf : ct k = f) : va_P g.1 gx_cl (pW g (so k) (sw k) (mt_cp k) u f) H := by rw [← hu, ← hf]; exact cw_pick hP hk
theorem cw_pickDE {A : Nat → Prop} (hD : va_D A (cW g ad so sw I n v us ct)) (hk : k < 25) (hu : us k = u) (hf : ct k = f) : va_D A (pW g (so k) (sw k) (mt_cp k) u f) := by rw [← hu, ← hf]; exact cw_pickD hD hk
variable {p : Program} {l : Launch} {e : Env} {R : Room} {s : State} {m : MethodId} {args : Array Value} {below : List Frame} {meth : Method} {c : Code} {H : Heap} {locs : List Loc} {cells slots : Nat} {Q : State → Prop}
variable {pc : Nat} {ls : Array Slot} {rest st0 : List Value} {a : Array Value} {A : Nat → Prop} {H0 : Heap}
theorem gc_caddE {post : (Nat → Int64) → Prop} (hk : k < 25) (hu : us k = u) (hf : ct k = f) (hr : va_Run p l e R s m args below meth c H locs cells slots 0 0 (F0 m pc ls st0) rest (va_Qv post (fun u1 t => va_P g.1 gx_cl (pW g (so k) (sw k) (mt_cp k) u u1) t.heap ∧ va_D (gx_in (pW g (so k) (sw k) (mt_cp k) u f)) (pW g (so k) (sw k) (mt_cp k) u u1)) (gx_in (pW g (so k) (sw k) (mt_cp k) u f)) a) (gx_in (pW g (so k) (sw k) (mt_cp k) u f))) (hP : va_P g.1 gx_cl (cW g ad so sw I n v us ct) H) (hD : va_D A (cW g ad so sw I n v us ct)) (hS : va_S A H0 H locs)
    (kk : ∀ (f' : Nat → Int64) (H1 : Heap) (locs1 : List Loc), post f' → va_P g.1 gx_cl (cW g ad so sw I n v us (va_up ct k f')) H1 → va_D A (cW g ad so sw I n v us (va_up ct k f')) → va_S A H0 H1 locs1 → W p l e R s m args below meth c H1 locs1 cells slots Q (F0 m (pc + 3) ls rest)) : W p l e R s m args below meth c H locs cells slots Q (F0 m pc ls st0) := by
  subst hu
  subst hf
  refine gc_cset (fu := fun _ => us k) (ff := fun u1 => u1) hk hr hP hD hS (fun f' H1 locs1 hp hP hD hS => ?_)
  rw [va_up_id] at hP hD
  exact kk f' H1 locs1 hp hP hD hS
theorem gc_cresE {w1 : Nat} {post : (Nat → Int64) → Prop} (hk : k < 25) (hu : us k = u) (hf : ct k = f) (hr : va_Run p l e R s m args below meth c H locs cells slots 0 0 (F0 m pc ls st0) rest (va_Qv post (fun u1 t => va_P g.1 gx_cl (pW g (so k) (sw k) (mt_cp k) w1 u1) t.heap ∧ va_D (gx_in (pW g (so k) (sw k) (mt_cp k) u f)) (pW g (so k) (sw k) (mt_cp k) w1 u1)) (gx_in (pW g (so k) (sw k) (mt_cp k) u f)) a) (gx_in (pW g (so k) (sw k) (mt_cp k) u f))) (hP : va_P g.1 gx_cl (cW g ad so sw I n v us ct) H) (hD : va_D A (cW g ad so sw I n v us ct)) (hS : va_S A H0 H locs)
    (kk : ∀ (f' : Nat → Int64) (H1 : Heap) (locs1 : List Loc), post f' → va_P g.1 gx_cl (cW g ad so sw I n v (va_up us k w1) (va_up ct k f')) H1 → va_D A (cW g ad so sw I n v (va_up us k w1) (va_up ct k f')) → va_S A H0 H1 locs1 → W p l e R s m args below meth c H1 locs1 cells slots Q (F0 m (pc + 3) ls rest)) : W p l e R s m args below meth c H locs cells slots Q (F0 m pc ls st0) := by
  subst hu
  subst hf
  exact gc_cset (fu := fun _ => w1) (ff := fun u1 => u1) hk hr hP hD hS kk
end CE
theorem mt_cp13 {k n : Nat} (h1 : 14 ≤ k) (h2 : k < 18) (hn : n ≤ 13) : mt_wd n ≤ mt_cp k := by
  unfold mt_cp
  rw [if_neg (by omega), if_pos h2]
  exact mt_wd_mono hn
theorem mt_cp12 {k n : Nat} (h1 : 18 ≤ k) (hn : n ≤ 12) : mt_wd n ≤ mt_cp k := by
  unfold mt_cp
  rw [if_neg (by omega), if_neg (by omega)]
  exact mt_wd_mono hn
theorem mt_cpr {k : Nat} (h : k < 14) : mt_cp k = mt_wd k := by
  unfold mt_cp
  rw [if_pos h]
theorem va_up_comm {α : Type} {f : Nat → α} {j k : Nat} {x y : α} (h : j ≠ k) : va_up (va_up f j x) k y = va_up (va_up f k y) j x := by
  funext i
  unfold va_up
  by_cases h1 : i = k
  · subst h1
    rw [if_pos rfl, if_neg (fun q => h q.symm), if_pos rfl]
  · rw [if_neg h1]
    by_cases h2 : i = j
    · subst h2
      rw [if_pos rfl, if_pos rfl]
    · rw [if_neg h2, if_neg h2, if_neg h1]
