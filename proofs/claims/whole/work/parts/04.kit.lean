/-! contracts of this system: what only reads (gc_RO), what writes its world and makes nothing (gc_RW, gc_RV) -/
abbrev gG : Type := va_G × (Nat → ClassId)
def gx_tys (g : gG) : List (ClassId × FieldType) := [(g.2 0, .int), (g.2 1, .boolean), (g.2 2, .long), (g.2 3, .object R_PS)]
/-- what the tables say, and stays said: classes, array classes, links of nest mates -/
def gx_ok (g : gG) (U : State) : Prop := va_K g.1 gx_cl (gx_tys g) U ∧ (∀ w ∈ gx_nest, va_Nw w U) ∧ va_AO R_PS U
theorem gx_ok.warm {g : gG} {s U : State} (hW : s.WarmedH U.vm) (h : gx_ok g s) : gx_ok g U := ⟨va_K.moved hW.alike h.1, fun w hw => gx_nest_warm hW w hw (h.2.1 w hw), va_AO.moved hW.alike h.2.2⟩
theorem gx_ok.same {g : gG} {s U : State} (hv : s.vm = U.vm) (h : gx_ok g s) : gx_ok g U := ⟨va_K.moved (by rw [hv]; exact Vm.Alike.refl U.vm) h.1, fun w hw => va_Nw.same (gx_nest_tab w hw) hv (h.2.1 w hw), va_AO.moved (by rw [hv]; exact Vm.Alike.refl U.vm) h.2.2⟩
/-- the addresses of a world -/
def gx_in (ws : va_W) : Nat → Prop := fun q => ∃ (k : Nat) (e : va_E), ws[k]? = some (q, e)
theorem gx_D.self {ws : va_W} {A : Nat → Prop} (h : va_D A ws) : va_D (gx_in ws) ws := ⟨h.1, fun k q hk => ⟨k, q.2, hk⟩⟩
abbrev gx_rm (fr lo : Nat) : Room := { frames := fr, cells := 0, slots := 0, locals := lo }
def gc_RO (l : Launch) (y : MethodName) (wsY : List Cond) (fr lo : Nat) (g : gG) (av : List Value) (ws : va_W) (post : Int32 → Prop) : Prop :=
  Met l y wsY (gx_rm fr lo) (va_Pc av (fun U => va_P g.1 gx_cl ws U.heap ∧ gx_ok g U)) (vp_Si post) 0 0 (fun _ => False)
def gc_RW {S : Type} (l : Launch) (y : MethodName) (wsY : List Cond) (fr lo : Nat) (g : gG) (av : List Value) (ws : va_W) (Wf : S → va_W) (post : Int32 → S → Prop) : Prop :=
  Met l y wsY (gx_rm fr lo) (va_Pc av (fun U => (va_P g.1 gx_cl ws U.heap ∧ gx_ok g U) ∧ va_D (fun _ => True) ws)) (va_Qi post (fun u t => va_P g.1 gx_cl (Wf u) t.heap ∧ va_D (gx_in ws) (Wf u)) (gx_in ws)) 0 0 (gx_in ws)
def gc_RV {S : Type} (l : Launch) (y : MethodName) (wsY : List Cond) (fr lo : Nat) (g : gG) (av : List Value) (ws : va_W) (Wf : S → va_W) (post : S → Prop) : Prop :=
  Met l y wsY (gx_rm fr lo) (va_Pc av (fun U => (va_P g.1 gx_cl ws U.heap ∧ gx_ok g U) ∧ va_D (fun _ => True) ws)) (va_Qv post (fun u t => va_P g.1 gx_cl (Wf u) t.heap ∧ va_D (gx_in ws) (Wf u)) (gx_in ws)) 0 0 (gx_in ws)
/-- a method's words: its code, and the words of all -/
abbrev gx_ws (y : MethodName) (cc : ByteArray) (n : Nat) (r : Option FieldType) : List Cond := .code y cc n r :: gx_tG
theorem gx_good {y : MethodName} {cc : ByteArray} {n : Nat} {r : Option FieldType} (h : Cond.code y cc n r ∈ gx_tG) : GoodIn gx_tG (gx_ws y cc n r) := by
  intro w hw
  have hm : w ∈ gx_tG := by
    rcases List.mem_cons.mp hw with e | e
    · rw [e]; exact h
    · exact e
  exact ⟨hm, good_of_word (List.all_eq_true.mp gx_tG_good w hm)⟩
theorem gx_goodV {own C : String} {idx : Nat} {y : MethodName} {cc : ByteArray} {n : Nat} {r : Option FieldType} (h1 : Cond.methodLink own idx y ∈ gx_tG) (h2 : Cond.instanceMethod y ∈ gx_tG) (h3 : Cond.selects C y y ∈ gx_tG) (h4 : Cond.initialized C ∈ gx_tG) (h : Cond.code y cc n r ∈ gx_tG) : GoodIn gx_tG (wsV own idx C y (gx_ws y cc n r)) := by
  intro w hw
  rcases List.mem_append.mp hw with e | e
  · have hm : w ∈ gx_tG := by
      simp only [List.mem_cons, List.not_mem_nil, or_false] at e
      rcases e with e | e | e | e <;> rw [e] <;> assumption
    exact ⟨hm, good_of_word (List.all_eq_true.mp gx_tG_good w hm)⟩
  · exact gx_good h w e
theorem gx_goodS {own : String} {idx : Nat} {y : MethodName} {cc : ByteArray} {n : Nat} {r : Option FieldType} (h1 : Cond.methodLink own idx y ∈ gx_tG) (h2 : Cond.static y ∈ gx_tG) (h4 : Cond.initialized y.cls ∈ gx_tG) (h : Cond.code y cc n r ∈ gx_tG) : GoodIn gx_tG (va_wsS own idx y (gx_ws y cc n r)) := by
  intro w hw
  rcases List.mem_append.mp hw with e | e
  · have hm : w ∈ gx_tG := by
      simp only [List.mem_cons, List.not_mem_nil, or_false] at e
      rcases e with e | e | e <;> rw [e] <;> assumption
    exact ⟨hm, good_of_word (List.all_eq_true.mp gx_tG_good w hm)⟩
  · exact gx_good h w e
/-- what holds inside a method's body -/
def gx_At (p : Program) (s : State) (m : MethodId) (meth : Method) (c : Code) (args : Array Value) (y : MethodName) (cc : ByteArray) (n : Nat) (r : Option FieldType) : Prop :=
  p.tables.exec = Jvm.exec ∧ c.code = cc ∧ c.maxLocals = n ∧ s.vm.findClass y.cls = some m.cls ∧ (∀ w ∈ gx_tG, w.before args s = true) ∧ meth.sig.returnType = r ∧ meth.locks = false ∧ meth.name = y.name
theorem gx_body {l : Launch} {y : MethodName} {rm : Room} {av : List Value} {B : State → Prop} {Qc : Array Value → State → Outcome → State → Prop} {mc ms : Nat} {free : Addr → Prop} {cc : ByteArray} {n : Nat} {r : Option FieldType} (hy : plainName y.cls = true) (hn : (lg_sl av).length ≤ n)
    (body : ∀ (p : Program) (e : Env) (s : State) (m : MethodId) (below : List Frame) (meth : Method) (c : Code) (ls : Array Slot), gx_At p s m meth c av.toArray y cc n r → B s → lv_has ls n (lv_args 0 av) →
      W p l e rm s m av.toArray below meth c s.heap [] 0 0 (MQ below Qc av.toArray s mc ms free) (F0 m 0 ls [])) : Met l y (gx_ws y cc n r) rm (va_Pc av B) Qc mc ms free := by
  refine Met.ofW (cc := cc) (maxL := n) (ret := r) hy rfl ?_
  intro p e s m args below meth c s₁ Bd hml hv
  obtain ⟨rfl, hB⟩ := hv
  have hts := atoms_spec (ws := gx_ws y cc n r) Bd.pre
  rw [lg_entry_eq]
  exact body p e s m below meth c _ ⟨Bd.exec, Bd.bytes, hml, findClass_of_methodNamed Bd.named, fun w hw => hts w (List.mem_cons_of_mem _ hw), Bd.returns, Bd.notSynchronized, (name_of_methodNamed Bd.named Bd.method).1⟩ hB (lv_entry av hn)
section GW
variable {p : Program} {l : Launch} {e : Env} {R : Room} {s : State} {m : MethodId} {args : Array Value} {below : List Frame} {meth : Method} {c : Code} {H : Heap} {locs : List Loc} {cells slots : Nat} {Q : State → Prop}
variable {cc : ByteArray} {pc : Nat} {ls : Array Slot} {rest : List Value} {g : gG} {ws : va_W}
theorem mt_ri {x y : Int32} (h : x = y) (k : W p l e R s m args below meth c H locs cells slots Q (F0 m pc ls (.int y :: rest))) : W p l e R s m args below meth c H locs cells slots Q (F0 m pc ls (.int x :: rest)) := by rw [h]; exact k
theorem mt_rl {x y : Int64} (h : x = y) (k : W p l e R s m args below meth c H locs cells slots Q (F0 m pc ls (.long y :: rest))) : W p l e R s m args below meth c H locs cells slots Q (F0 m pc ls (.long x :: rest)) := by rw [h]; exact k
theorem mt_rv {v w : Value} (h : v = w) (k : W p l e R s m args below meth c H locs cells slots Q (F0 m pc ls (w :: rest))) : W p l e R s m args below meth c H locs cells slots Q (F0 m pc ls (v :: rest)) := by rw [h]; exact k
theorem gc_preB {av : List Value} {B : State → Prop} (hb : ∀ (U : State) (f : JFrame) (mk : MethodId), B U → B (U.calling f mk av.toArray)) : FrameBlind (va_Pc av B) := by
  intro a U f mk h
  obtain ⟨h1, h2⟩ := h
  subst h1
  exact ⟨rfl, hb U f mk h2⟩
theorem gc_blind {av : List Value} : FrameBlind (va_Pc av (fun U => va_P g.1 gx_cl ws U.heap ∧ gx_ok g U)) := gc_preB fun U f mk h => ⟨h.1, gx_ok.same (s := U) rfl h.2⟩
theorem gc_blindW {av : List Value} : FrameBlind (va_Pc av (fun U => (va_P g.1 gx_cl ws U.heap ∧ gx_ok g U) ∧ va_D (fun _ => True) ws)) := gc_preB fun U f mk h => ⟨⟨h.1.1, gx_ok.same (s := U) rfl h.1.2⟩, h.2⟩
theorem gc_preS {av : List Value} (hP : va_P g.1 gx_cl ws H) (hG : gx_ok g s) : PreS s H (va_Pc av (fun U => va_P g.1 gx_cl ws U.heap ∧ gx_ok g U)) av := ⟨gc_blind, fun U hU hW => ⟨rfl, by rw [hU]; exact hP, hG.warm hW⟩⟩
theorem gc_preSW {av : List Value} {A : Nat → Prop} (hP : va_P g.1 gx_cl ws H) (hG : gx_ok g s) (hD : va_D A ws) : PreS s H (va_Pc av (fun U => (va_P g.1 gx_cl ws U.heap ∧ gx_ok g U) ∧ va_D (fun _ => True) ws)) av := ⟨gc_blindW, fun U hU hW => ⟨rfl, ⟨by rw [hU]; exact hP, hG.warm hW⟩, hD.weaken (fun _ _ _ _ => trivial)⟩⟩
/-- the receiver is an object of the world -/
theorem gc_recv {w : va_W} {b q0 ci : Nat} {q : vw_C} {fs : List Value} (hP : va_P g.1 gx_cl w H) (hG : gx_ok g s) (hc : gx_cl[ci]? = some q) (he : w[q0]? = some (b, .inr (ci, fs))) : ∃ cell : Cell, H[b]? = some cell ∧ cell.vm.isStatics = false ∧ s.vm.findClass q.1 = some cell.cls := va_recv hG.1 hP hc he
theorem gc_preV {C : String} {b : Nat} {As : List Value} (hr : ∃ cell : Cell, H[b]? = some cell ∧ cell.vm.isStatics = false ∧ s.vm.findClass C = some cell.cls) (hP : va_P g.1 gx_cl ws H) (hG : gx_ok g s) : PreV s H C b (va_Pc (.ref b :: As) (fun U => va_P g.1 gx_cl ws U.heap ∧ gx_ok g U)) As := ⟨gc_blind, hr, fun U hU hW => ⟨rfl, by rw [hU]; exact hP, hG.warm hW⟩⟩
theorem gc_preVW {C : String} {b : Nat} {As : List Value} {A : Nat → Prop} (hr : ∃ cell : Cell, H[b]? = some cell ∧ cell.vm.isStatics = false ∧ s.vm.findClass C = some cell.cls) (hP : va_P g.1 gx_cl ws H) (hG : gx_ok g s) (hD : va_D A ws) : PreV s H C b (va_Pc (.ref b :: As) (fun U => (va_P g.1 gx_cl ws U.heap ∧ gx_ok g U) ∧ va_D (fun _ => True) ws)) As := ⟨gc_blindW, hr, fun U hU hW => ⟨rfl, ⟨by rw [hU]; exact hP, hG.warm hW⟩, hD.weaken (fun _ _ _ _ => trivial)⟩⟩
/-! ends -/
theorem gc_reti {v : Int32} {post : Int32 → Prop} (hx : p.tables.exec = Jvm.exec) (hb : c.code = cc) (hr : meth.sig.returnType = some .int) (hlk : meth.locks = false) (hp : post v) (hdg : decode cc pc = .ok (.ireturn, 1)) : W p l e R s m args below meth c s.heap [] 0 0 (MQ below (vp_Si post) args s 0 0 (fun _ => False)) (F0 m pc ls [.int v]) :=
  W.iret hx hb hr (fun t ht _ => ⟨v, rfl, hp, ht⟩) (fun q h => by cases h) hdg hlk
theorem gc_retz {v : Bool} {post : Int32 → Prop} (hx : p.tables.exec = Jvm.exec) (hb : c.code = cc) (hr : meth.sig.returnType = some .boolean) (hlk : meth.locks = false) (hp : post (mt_b v)) (hdg : decode cc pc = .ok (.ireturn, 1)) : W p l e R s m args below meth c s.heap [] 0 0 (MQ below (vp_Si post) args s 0 0 (fun _ => False)) (F0 m pc ls [.int (mt_b v)]) :=
  W.zret hx hb hr (mt_b_nar v) (fun t ht _ => ⟨_, rfl, hp, ht⟩) (fun q h => by cases h) hdg hlk
theorem gc_retwi {S : Type} {u : S} {Wf : S → va_W} {v : Int32} {post : Int32 → S → Prop} (hx : p.tables.exec = Jvm.exec) (hb : c.code = cc) (hr : meth.sig.returnType = some .int) (hlk : meth.locks = false) (hp : post v u) (hP : va_P g.1 gx_cl (Wf u) H) (hD : va_D (gx_in ws) (Wf u)) (hS : va_S (gx_in ws) s.heap H locs) (hdg : decode cc pc = .ok (.ireturn, 1)) : W p l e R s m args below meth c H locs 0 0 (MQ below (va_Qi post (fun u t => va_P g.1 gx_cl (Wf u) t.heap ∧ va_D (gx_in ws) (Wf u)) (gx_in ws)) args s 0 0 (gx_in ws)) (F0 m pc ls [.int v]) :=
  W.iret hx hb hr (fun t ht _ => ⟨⟨v, u, rfl, hp, by rw [ht]; exact hP, hD⟩, hS.F ht⟩) hS.2.2 hdg hlk
theorem gc_retwz {S : Type} {u : S} {Wf : S → va_W} {v : Bool} {post : Int32 → S → Prop} (hx : p.tables.exec = Jvm.exec) (hb : c.code = cc) (hr : meth.sig.returnType = some .boolean) (hlk : meth.locks = false) (hp : post (mt_b v) u) (hP : va_P g.1 gx_cl (Wf u) H) (hD : va_D (gx_in ws) (Wf u)) (hS : va_S (gx_in ws) s.heap H locs) (hdg : decode cc pc = .ok (.ireturn, 1)) : W p l e R s m args below meth c H locs 0 0 (MQ below (va_Qi post (fun u t => va_P g.1 gx_cl (Wf u) t.heap ∧ va_D (gx_in ws) (Wf u)) (gx_in ws)) args s 0 0 (gx_in ws)) (F0 m pc ls [.int (mt_b v)]) :=
  W.zret hx hb hr (mt_b_nar v) (fun t ht _ => ⟨⟨_, u, rfl, hp, by rw [ht]; exact hP, hD⟩, hS.F ht⟩) hS.2.2 hdg hlk
theorem gc_retv {S : Type} {u : S} {Wf : S → va_W} {post : S → Prop} (hx : p.tables.exec = Jvm.exec) (hb : c.code = cc) (hr : meth.sig.returnType = none) (hlk : meth.locks = false) (hp : post u) (hP : va_P g.1 gx_cl (Wf u) H) (hD : va_D (gx_in ws) (Wf u)) (hS : va_S (gx_in ws) s.heap H locs) (hdg : decode cc pc = .ok (.return_, 1)) : W p l e R s m args below meth c H locs 0 0 (MQ below (va_Qv post (fun u t => va_P g.1 gx_cl (Wf u) t.heap ∧ va_D (gx_in ws) (Wf u)) (gx_in ws)) args s 0 0 (gx_in ws)) (F0 m pc ls []) :=
  W.vret hx hb hr (fun t ht _ => ⟨⟨u, rfl, hp, by rw [ht]; exact hP, hD⟩, hS.F ht⟩) hS.2.2 hdg hlk
/-! calls of what writes: the callee's world is the caller's -/
variable {A : Nat → Prop} {H0 : Heap} {st0 : List Value} {a : Array Value}
theorem gx_in_A {A : Nat → Prop} (hD : va_D A ws) : ∀ q, gx_in ws q → A q := fun q h => by
  obtain ⟨k, e, h⟩ := h
  exact hD.2 k (q, e) h
theorem gc_cwi {S : Type} {Wf : S → va_W} {post : Int32 → S → Prop} (hr : va_Run p l e R s m args below meth c H locs cells slots 0 0 (F0 m pc ls st0) rest (va_Qi post (fun u t => va_P g.1 gx_cl (Wf u) t.heap ∧ va_D (gx_in ws) (Wf u)) (gx_in ws) a) (gx_in ws)) (hD : va_D A ws) (hS : va_S A H0 H locs)
    (kk : ∀ (r : Int32) (u : S) (H1 : Heap) (locs1 : List Loc), post r u → va_P g.1 gx_cl (Wf u) H1 → va_D A (Wf u) → va_S A H0 H1 locs1 → W p l e R s m args below meth c H1 locs1 cells slots Q (F0 m (pc + 3) ls (.int r :: rest))) : W p l e R s m args below meth c H locs cells slots Q (F0 m pc ls st0) :=
  va_calli hr hS (fun q _ h => gx_in_A hD q h) (gx_in_A hD) (fun r u t H1 locs1 ht _ hp hB _ _ hS1 => kk r u H1 locs1 hp (by rw [← ht]; exact hB.1) (hB.2.weaken (fun _ q _ h => gx_in_A hD q.1 h)) hS1)
theorem gc_cwv {S : Type} {Wf : S → va_W} {post : S → Prop} (hr : va_Run p l e R s m args below meth c H locs cells slots 0 0 (F0 m pc ls st0) rest (va_Qv post (fun u t => va_P g.1 gx_cl (Wf u) t.heap ∧ va_D (gx_in ws) (Wf u)) (gx_in ws) a) (gx_in ws)) (hD : va_D A ws) (hS : va_S A H0 H locs)
    (kk : ∀ (u : S) (H1 : Heap) (locs1 : List Loc), post u → va_P g.1 gx_cl (Wf u) H1 → va_D A (Wf u) → va_S A H0 H1 locs1 → W p l e R s m args below meth c H1 locs1 cells slots Q (F0 m (pc + 3) ls rest)) : W p l e R s m args below meth c H locs cells slots Q (F0 m pc ls st0) :=
  va_callv hr hS (fun q _ h => gx_in_A hD q h) (gx_in_A hD) (fun u t H1 locs1 ht _ hp hB _ _ hS1 => kk u H1 locs1 hp (by rw [← ht]; exact hB.1) (hB.2.weaken (fun _ q _ h => gx_in_A hD q.1 h)) hS1)
end GW
/-- behind a call of what has two cells of the world: they change, the rest stays -/
theorem gx_two {A : Nat → Prop} {g : gG} {ws : va_W} {H H1 : Heap} {i j a b : Nat} {e0 f0 e1 f1 : va_E} (hP : va_P g.1 gx_cl ws H) (hD : va_D A ws) (hi : ws[i]? = some (a, e0)) (hj : ws[j]? = some (b, f0)) (hij : i ≠ j)
    (hk : ∀ q : Nat, q < H.size → ¬ gx_in [(a, e0), (b, f0)] q → H1[q]? = H[q]?) (hP1 : va_P g.1 gx_cl [(a, e1), (b, f1)] H1) : va_P g.1 gx_cl ((ws.set i (a, e1)).set j (b, f1)) H1 ∧ va_D A ((ws.set i (a, e1)).set j (b, f1)) := by
  have hj' : (ws.set i (a, e1))[j]? = some (b, f0) := by rw [List.getElem?_set_ne hij]; exact hj
  have hD1 : va_D A (ws.set i (a, e1)) := hD.set hi
  refine ⟨fun k q hq => ?_, hD1.set hj'⟩
  have hlj := (List.getElem?_eq_some_iff.mp hj').1
  have hli := (List.getElem?_eq_some_iff.mp hi).1
  by_cases h1 : k = j
  · subst h1
    rw [List.getElem?_set_self hlj] at hq
    cases hq
    exact hP1 1 _ rfl
  · rw [List.getElem?_set_ne (Ne.symm h1)] at hq
    by_cases h2 : k = i
    · subst h2
      rw [List.getElem?_set_self hli] at hq
      cases hq
      exact hP1 0 _ rfl
    · rw [List.getElem?_set_ne (Ne.symm h2)] at hq
      have h3 := hP k q hq
      refine h3.kept (hk q.1 h3.lt ?_)
      rintro ⟨n, e, hn⟩
      have hn2 : n < 2 := (List.getElem?_eq_some_iff.mp hn).1
      have h4 : n = 0 ∨ n = 1 := by omega
      rcases h4 with rfl | rfl
      · cases hn
        exact h2 (hD.1 k i q _ hq hi rfl)
      · cases hn
        exact h1 (hD.1 k j q _ hq hj rfl)
