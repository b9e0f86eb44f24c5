/-! ===== BASE: pure words of a decompiled method, and rows that join a call's frame ===== -/
def gm_fix {σ : Type} (f : σ → σ) (z : σ) : Nat → σ
  | 0 => z
  | n + 1 => f (gm_fix f z n)
theorem gm_fix_s {σ : Type} (f : σ → σ) (z : σ) (n : Nat) : gm_fix f z (n + 1) = f (gm_fix f z n) := rfl
theorem gm_fix_0 {σ : Type} (f : σ → σ) (z : σ) : gm_fix f z 0 = z := rfl
def gm_chk {α : Type} (i : Int32) (n : Nat) (k : Option α) : Option α := if i < 0 ∨ n ≤ i.toNatClampNeg then none else k
theorem gm_chk_e {α : Type} {i : Int32} {n : Nat} {k : Option α} {o : α} (h : gm_chk i n k = some o) : vp_in i n ∧ k = some o := by
  unfold gm_chk at h
  split at h
  · cases h
  · next hh => exact ⟨hh, h⟩
theorem gm_chk_ok {α : Type} {i : Int32} {n : Nat} {k : Option α} (h : vp_in i n) : gm_chk i n k = k := if_neg h
def gm_nz {α : Type} (y : Int32) (k : Option α) : Option α := if y = 0 then none else k
theorem gm_nz_e {α : Type} {y : Int32} {k : Option α} {o : α} (h : gm_nz y k = some o) : ¬ y = 0 ∧ k = some o := by
  unfold gm_nz at h
  split at h
  · cases h
  · next hh => exact ⟨hh, h⟩
theorem gm_nz_ok {α : Type} {y : Int32} {k : Option α} (h : ¬ y = 0) : gm_nz y k = k := if_neg h
def gm_nzL {α : Type} (y : Int64) (k : Option α) : Option α := if y = 0 then none else k
theorem gm_nzL_e {α : Type} {y : Int64} {k : Option α} {o : α} (h : gm_nzL y k = some o) : ¬ y = 0 ∧ k = some o := by
  unfold gm_nzL at h
  split at h
  · cases h
  · next hh => exact ⟨hh, h⟩
theorem gm_nzL_ok {α : Type} {y : Int64} {k : Option α} (h : ¬ y = 0) : gm_nzL y k = k := if_neg h
/-- a boolean that is handed back is 0 or 1 -/
def gm_bl {α : Type} (y : Int32) (k : Option α) : Option α := if y &&& 1 = y then k else none
theorem gm_bl_e {α : Type} {y : Int32} {k : Option α} {o : α} (h : gm_bl y k = some o) : narrow .boolean (.int y) = .int y ∧ k = some o := by
  unfold gm_bl at h
  split at h
  · next hh => exact ⟨congrArg Value.int hh, h⟩
  · cases h
theorem gm_bl_ok {α : Type} {y : Int32} {k : Option α} (h : y &&& 1 = y) : gm_bl y k = k := if_pos h
def gm_let {α β : Type} (x : α) (f : α → β) : β := f x
theorem gm_let_e {α β : Type} {x y : α} {f : α → β} {o : β} (e : y = x) (h : gm_let x f = o) : f y = o := by
  subst e
  exact h
def gm_bind {α β : Type} (x : Option α) (f : α → Option β) : Option β := match x with
  | none => none
  | some a => f a
theorem gm_bind_e {α β : Type} {x : Option α} {f : α → Option β} {o : β} (h : gm_bind x f = some o) : ∃ a, x = some a ∧ f a = some o := by
  cases x with
  | none => cases h
  | some a => exact ⟨a, rfl, h⟩
theorem gm_bind_s {α β : Type} (a : α) (f : α → Option β) : gm_bind (some a) f = f a := rfl
theorem gm_pos {c : Prop} [Decidable c] {α : Type} {a b o : α} (hc : c) (h : (if c then a else b) = o) : a = o := by
  rw [if_pos hc] at h
  exact h
theorem gm_neg {c : Prop} [Decidable c] {α : Type} {a b o : α} (hc : ¬ c) (h : (if c then a else b) = o) : b = o := by
  rw [if_neg hc] at h
  exact h
abbrev gm_Y : Type := (Nat → Prop) → State → Heap → Prop
def gm_Yok (X : gm_Y) : Prop := (∀ (A : Nat → Prop) (u U : State) (H : Heap), (u.vm = U.vm ∨ u.WarmedH U.vm) → X A u H → X A U H) ∧ (∀ (A : Nat → Prop) (U : State) (H H1 : Heap), (∀ a : Nat, a < H.size → ¬ A a → H1[a]? = H[a]?) → X A U H → X A U H1) ∧ ∀ (A B : Nat → Prop) (U : State) (H : Heap), (∀ q, B q → A q) → X A U H → X B U H
def gm_T : gm_Y := fun _ _ _ => True
theorem gm_T_ok : gm_Yok gm_T := ⟨fun _ _ _ _ _ h => h, fun _ _ _ _ _ h => h, fun _ _ _ _ _ h => h⟩
def gm_C (p : Program) (s : State) (m : MethodId) (args : Array Value) (meth : Method) (c : Code) (D : va_G) (tys : List (ClassId × FieldType)) (A : Nat → Prop) (X : gm_Y) (own : String) (cc : ByteArray) (nL : Nat) (ret : Option FieldType) (Ts : List Cond) : Prop :=
  p.tables.exec = Jvm.exec ∧ c.code = cc ∧ c.maxLocals = nL ∧ meth.sig.returnType = ret ∧ s.vm.findClass own = some m.cls ∧ (∀ w ∈ Ts, w.before args s = true) ∧ (∀ q : Nat, s.heap.size ≤ q → A q) ∧ va_K D vwCl tys s ∧ X A s s.heap ∧ meth.locks = false
def gm_H (D : va_G) (A : Nat → Prop) (s : State) (ws : va_W) (H : Heap) (locs : List Loc) : Prop := va_P D vwCl ws H ∧ va_D A ws ∧ va_S A s.heap H locs
def gm_Q (D : va_G) (tys : List (ClassId × FieldType)) (A : Nat → Prop) (rv : Option Value) (wo : va_W) : Array Value → State → Outcome → State → Prop := fun _ st oc t => (oc = .returned rv ∧ va_P D vwCl wo t.heap ∧ va_K D vwCl tys t ∧ va_D A wo) ∧ va_F A st t
def gm_Pc (D : va_G) (tys : List (ClassId × FieldType)) (X : gm_Y) (av : List Value) (wi : va_W) (sz : Nat) : Array Value → State → Prop := va_Pc av (fun U => U.heap.size = sz ∧ va_P D vwCl wi U.heap ∧ va_K D vwCl tys U ∧ va_D (fun _ => True) wi ∧ X (va_A wi sz) U U.heap)
def gm_Met (l : Launch) (y : MethodName) (Ts : List Cond) (rm : Room) (D : va_G) (tys : List (ClassId × FieldType)) (X : gm_Y) (av : List Value) (wi : va_W) (rv : Option Value) (wo : va_W) : Prop := ∀ sz : Nat, Met l y Ts rm (gm_Pc D tys X av wi sz) (gm_Q D tys (va_A wi sz) rv wo) 0 0 (va_A wi sz)
theorem gm_Pc_blind {D : va_G} {tys : List (ClassId × FieldType)} {X : gm_Y} {av : List Value} {wi : va_W} {sz : Nat} (hX : gm_Yok X) : FrameBlind (gm_Pc D tys X av wi sz) := by
  intro a U g mk q
  obtain ⟨q0, q1, qP, qK, qD, qX⟩ := q
  exact ⟨q0, q1, qP, va_K.moved (u := U) (U := U.calling g mk a) (Vm.Alike.refl U.vm) qK, qD, hX.1 _ U (U.calling g mk a) _ (Or.inl rfl) qX⟩
theorem gm_ofW {l : Launch} {y : MethodName} {ws ws' : List Cond} {rm : Room} {D : va_G} {tys : List (ClassId × FieldType)} {X : gm_Y} {av : List Value} {wi : va_W} {rv : Option Value} {wo : va_W} {cc : ByteArray} {maxL : Nat} {ret : Option FieldType} (hy : plainName y.cls = true) (hw : ws = Cond.code y cc maxL ret :: ws') (hav : (lg_sl av).length ≤ maxL)
    (body : ∀ (p : Program) (e : Env) (s : State) (m : MethodId) (below : List Frame) (meth : Method) (c : Code) (A : Nat → Prop), gm_C p s m av.toArray meth c D tys A X y.cls cc maxL ret ws → gm_H D A s wi s.heap [] → ∀ ls : Array Slot, lv_has ls maxL (lv_args 0 av) → W p l e rm s m av.toArray below meth c s.heap [] 0 0 (MQ below (gm_Q D tys A rv wo) av.toArray s 0 0 A) (F0 m 0 ls [])) : gm_Met l y ws rm D tys X av wi rv wo := by
  intro sz
  refine Met.ofW (cc := cc) (maxL := maxL) (ret := ret) hy hw ?_
  intro p e s m args below meth c s₁ B hml hv
  obtain ⟨rfl, hsz, hP, hK, hD0, hX⟩ := hv
  subst hsz
  rw [lg_entry_eq]
  exact body p e s m below meth c _ ⟨B.exec, B.bytes, hml, B.returns, findClass_of_methodNamed B.named, atoms_spec (ws := ws) B.pre, fun q h => Or.inr h, hK, hX, B.notSynchronized⟩ ⟨hP, hD0.self (sz := s.heap.size), va_S.rf⟩ _ (lv_entry av (n := maxL) hav)
def gm_sets : va_W → List Nat → va_W → va_W
  | ws, i :: is, e :: es => gm_sets (ws.set i e) is es
  | ws, _, _ => ws
theorem gm_sets_get : ∀ (is : List Nat) (es ws : va_W), is.length = es.length → ∀ (k : Nat) (q : Nat × va_E), (gm_sets ws is es)[k]? = some q → (∃ j : Nat, is[j]? = some k ∧ es[j]? = some q) ∨ (ws[k]? = some q ∧ k ∉ is)
  | [], es, ws, _, k, q, h => Or.inr ⟨by cases es <;> exact h, List.not_mem_nil⟩
  | i :: is, [], ws, hl, k, q, h => absurd hl (by simp)
  | i :: is, e :: es, ws, hl, k, q, h => by
    rcases gm_sets_get is es (ws.set i e) (by simpa using hl) k q h with ⟨j, h1, h2⟩ | ⟨h1, h2⟩
    · exact Or.inl ⟨j + 1, h1, h2⟩
    · by_cases hk : i = k
      · subst hk
        rw [List.getElem?_set] at h1
        simp only [if_true] at h1
        split at h1
        · exact Or.inl ⟨0, rfl, h1⟩
        · cases h1
      · rw [List.getElem?_set_ne hk] at h1
        refine Or.inr ⟨h1, fun hm => ?_⟩
        rcases List.mem_cons.mp hm with hm | hm
        · exact hk hm.symm
        · exact h2 hm
theorem gm_places {ws w : va_W} {is : List Nat} (hs : is.map (fun i => ws[i]?) = w.map some) (k : Nat) (q : Nat × va_E) (hq : w[k]? = some q) : ∃ i, is[k]? = some i ∧ ws[i]? = some q := by
  have h1 : (is.map (fun i => ws[i]?))[k]? = some (some q) := by rw [hs, List.getElem?_map, hq]; rfl
  rw [List.getElem?_map] at h1
  cases hi : is[k]? with
  | none => rw [hi] at h1; cases h1
  | some i => rw [hi] at h1; exact ⟨i, rfl, Option.some.inj h1⟩
theorem gm_places' {ws w : va_W} {is : List Nat} (hs : is.map (fun i => ws[i]?) = w.map some) (k i : Nat) (hi : is[k]? = some i) : ∃ q, w[k]? = some q ∧ ws[i]? = some q := by
  have h1 : (w.map some)[k]? = some (ws[i]?) := by rw [← hs, List.getElem?_map, hi]; rfl
  rw [List.getElem?_map] at h1
  cases hw : w[k]? with
  | none => rw [hw] at h1; cases h1
  | some q => rw [hw] at h1; exact ⟨q, rfl, (Option.some.inj h1).symm⟩
/-- behind a call: every cell at its old place -/
theorem gm_put {A : Nat → Prop} {D : va_G} {s : State} {ws wc w1 : va_W} {H H1 : Heap} {locs locs1 : List Loc} (hH : gm_H D A s ws H locs) (isC : List Nat) (hC : isC.map (fun i => ws[i]?) = wc.map some) (hf : w1.map (fun q => q.1) = wc.map (fun q => q.1))
    (hk : ∀ q : Nat, q < H.size → ¬ va_A wc H.size q → H1[q]? = H[q]?) (hP1 : va_P D vwCl w1 H1) (hS : va_S A s.heap H1 locs1) : gm_H D A s (gm_sets ws isC w1) H1 locs1 := by
  obtain ⟨hP, hD, -⟩ := hH
  have hlen : isC.length = w1.length := by
    have h1 := congrArg List.length hC
    have h2 := congrArg List.length hf
    simp only [List.length_map] at h1 h2
    omega
  have same : ∀ (k : Nat) (q : Nat × va_E), (gm_sets ws isC w1)[k]? = some q → ∃ e, ws[k]? = some (q.1, e) := by
    intro k q hq
    rcases gm_sets_get isC w1 ws hlen k q hq with ⟨j, h1, h2⟩ | ⟨h1, -⟩
    · obtain ⟨q2, h3, h4⟩ := gm_places' hC j k h1
      have h5 : (w1.map (fun q => q.1))[j]? = (wc.map (fun q => q.1))[j]? := by rw [hf]
      rw [List.getElem?_map, List.getElem?_map, h2, h3] at h5
      have h6 : q.1 = q2.1 := Option.some.inj h5
      exact ⟨q2.2, by rw [h4, h6]⟩
    · exact ⟨q.2, h1⟩
  refine ⟨fun k q hq => ?_, ⟨fun i j x y hx hy hxy => ?_, fun k q hq => ?_⟩, hS⟩
  · rcases gm_sets_get isC w1 ws hlen k q hq with ⟨j, h1, h2⟩ | ⟨h1, h2⟩
    · exact hP1 j q h2
    · have hl := (hP k q h1).lt
      refine (hP k q h1).kept (hk q.1 hl (fun h => ?_))
      rcases h with ⟨k2, e, h⟩ | h
      · obtain ⟨i, h3, h4⟩ := gm_places hC k2 (q.1, e) h
        have hij := hD.1 k i q (q.1, e) h1 h4 rfl
        subst hij
        exact h2 (List.mem_of_getElem? h3)
      · omega
  · obtain ⟨e1, h1⟩ := same i x hx
    obtain ⟨e2, h2⟩ := same j y hy
    exact hD.1 i j _ _ h1 h2 hxy
  · obtain ⟨e1, h1⟩ := same k q hq
    exact hD.2 k (q.1, e1) h1
section GMR
variable {p : Program} {l : Launch} {e : Env} {R : Room} {s : State} {m : MethodId} {args : Array Value} {below : List Frame} {meth : Method} {c : Code} {H : Heap} {locs : List Loc} {cells slots : Nat} {Q : State → Prop}
variable {cc : ByteArray} {pc nL : Nat} {ls : Array Slot} {rest st0 : List Value} {D : va_G} {tys tys1 : List (ClassId × FieldType)} {A : Nat → Prop} {X X1 : gm_Y} {own : String} {ret : Option FieldType} {Ts : List Cond} {ws wc w1 : va_W}
theorem gm_at (C0 : gm_C p s m args meth c D tys A X own cc nL ret Ts) (i : Nat) {w : Cond} (h : Ts[i]? = some w) : w.before args s = true := C0.2.2.2.2.2.1 w (List.mem_of_getElem? h)
theorem gm_go {a : Array Value} {rv : Option Value} (hr : va_Run p l e R s m args below meth c H locs cells slots 0 0 (F0 m pc ls st0) rest (gm_Q D tys1 (va_A wc H.size) rv w1 a) (va_A wc H.size)) (hA : ∀ q : Nat, s.heap.size ≤ q → A q) (hH : gm_H D A s ws H locs) (isC : List Nat) (hC : isC.map (fun i => ws[i]?) = wc.map some) (hf : w1.map (fun q => q.1) = wc.map (fun q => q.1))
    (kk : ∀ (H1 : Heap) (locs1 : List Loc), gm_H D A s (gm_sets ws isC w1) H1 locs1 → W p l e R s m args below meth c H1 locs1 cells slots Q (F0 m (pc + 3) ls (rv.toList ++ rest))) : W p l e R s m args below meth c H locs cells slots Q (F0 m pc ls st0) := by
  intro T hT X
  have hS := hH.2.2
  have hfree := va_free (wc := wc) hH.2.1 hS hA isC hC
  obtain ⟨v, st₀, t, T', L, h0, X', hL, e1, e2, ⟨⟨hv, hP1, hK1, hD1⟩, hz, hk⟩, st⟩ := hr T hT X
  cases hv
  rw [h0] at hz hk
  have hS1 : va_S A s.heap T'.heap (locs ++ L) := ⟨Nat.le_trans hS.1 (by rw [e1]; exact hz), fun q h1 h2 => by rw [e1, hk q (Nat.lt_of_lt_of_le h1 hS.1) (fun z => h2 (hfree q z))]; exact hS.2.1 q h1 h2, fun q hq => by
      rcases List.mem_append.mp hq with h | h
      · exact hS.2.2 q h
      · exact hfree _ (hL q h)⟩
  obtain ⟨t2, a1, b1⟩ := kk T'.heap (locs ++ L) (gm_put hH isC hC hf (fun q h1 h2 => by rw [e1]; exact hk q h1 h2) (by rw [e1]; exact hP1) hS1) T' rfl X'
  exact ⟨t2, st t2 a1, b1⟩
theorem gm_pre {av : List Value} (C0 : gm_C p s m args meth c D tys A X own cc nL ret Ts) (hH : gm_H D A s ws H locs) (isC : List Nat) (hC : isC.map (fun i => ws[i]?) = wc.map some) (hnd : va_nd isC = true) (isT : List Nat) (hT : isT.filterMap (fun i => tys[i]?) = tys1) (hX1 : gm_Yok X1) (hXX : X A s s.heap → X1 A s s.heap) (U : State) (hU : U.heap = H) (hW : s.WarmedH U.vm) : gm_Pc D tys1 X1 av wc H.size av.toArray U := by
  obtain ⟨hx, hb, hml, hr, hown, hts, hA, hK, hX, hlocks⟩ := C0
  obtain ⟨hP, hD, hS⟩ := hH
  have hDc := hD.sub (ws' := wc) isC hnd hC
  refine ⟨rfl, by rw [hU], ?_, va_K.moved hW.alike (hK.sub (tys' := tys1) isT hT), hDc.weaken (fun _ _ _ _ => trivial), ?_⟩
  · rw [hU]
    intro k q hq
    obtain ⟨i, -, h2⟩ := gm_places hC k q hq
    exact hP i q h2
  · rw [hU]
    exact hX1.2.2 A _ U H (va_free (wc := wc) hD hS hA isC hC) (hX1.2.1 A U s.heap H (fun a h1 h2 => hS.2.1 a h1 h2) (hX1.1 A s U s.heap (Or.inr hW) (hXX hX)))
theorem gm_callV {y : MethodName} {wsY wsY' : List Cond} {rm : Room} {b : Nat} {As : List Value} {rv : Option Value} {Cn : String} {Tn : u_T} {Nn ci index maxL q0 n : Nat} {bytes : ByteArray} {rety : Option FieldType} {fs : List Value} (C0 : gm_C p s m args meth c D tys A X own cc nL ret Ts) (hH : gm_H D A s ws H locs) (hM : gm_Met l y wsY rm D tys1 X1 (.ref b :: As) wc rv w1) (hG : GoodIn Ts (wsV own index Cn y wsY)) (hw : wsY = Cond.code y bytes maxL rety :: wsY') (hd : y.cls = Cn ∧ y.cls ≠ "java/lang/invoke/MethodHandle" ∧ y.cls ≠ "java/lang/invoke/VarHandle" ∧ (parseMethodDescriptor y.desc).map (fun d => d.parameters.length) = some n) (hrm : rm.cells = 0 ∧ rm.slots = 0 ∧ rm.frames + 1 ≤ R.frames ∧ 8 + (maxL + 11) + rm.locals ≤ R.locals)
    (hX1 : gm_Yok X1) (hXX : X A s s.heap → X1 A s s.heap) (isC : List Nat) (hC : isC.map (fun i => ws[i]?) = wc.map some) (hnd : va_nd isC = true) (hf : w1.map (fun q => q.1) = wc.map (fun q => q.1)) (isT : List Nat) (hT : isT.filterMap (fun i => tys[i]?) = tys1) (hq0 : ws[q0]? = some (b, .inr (ci, fs))) (hc : vwCl[ci]? = some (Cn, Tn, Nn)) (hn : As.length = n) (hsz : ls.size = nL) (hst : st0 = As.reverse ++ .ref b :: rest) (hrest : (rest.map fun v => v.category).sum ≤ 8) (hdg : decode cc pc = .ok (.invokevirtual index, 3)) (hcs : cells ≤ R.cells ∧ slots ≤ R.slots)
    (kk : ∀ (H1 : Heap) (locs1 : List Loc), gm_H D A s (gm_sets ws isC w1) H1 locs1 → W p l e R s m args below meth c H1 locs1 cells slots Q (F0 m (pc + 3) ls (rv.toList ++ rest))) : W p l e R s m args below meth c H locs cells slots Q (F0 m pc ls st0) := by
  obtain ⟨hx, hb, hml, hr, hown, hts, hA, hK, hX, hlocks⟩ := id C0
  refine gm_go (a := (Value.ref b :: As).toArray) (va_runV (As := As) (rest := rest) (b := b) ⟨hx, hb, hml, hown, hts⟩ (hM H.size) (cwV n hts hG hw hrm.1 hrm.2.1 hd hrm.2.2) ⟨gm_Pc_blind hX1, va_recv hK hH.1 (ci := ci) (q0 := q0) hc hq0, fun U hU hW => gm_pre C0 hH isC hC hnd isT hT hX1 hXX U hU hW⟩ rfl hn hsz hst (lv_room hrest) hdg ⟨hcs.1, hcs.2⟩) hA hH isC hC hf kk
theorem gm_callS {y : MethodName} {wsY wsY' : List Cond} {rm : Room} {As : List Value} {rv : Option Value} {index maxL n : Nat} {bytes : ByteArray} {rety : Option FieldType} (C0 : gm_C p s m args meth c D tys A X own cc nL ret Ts) (hH : gm_H D A s ws H locs) (hM : gm_Met l y wsY rm D tys1 X1 As wc rv w1) (hG : GoodIn Ts (va_wsS own index y wsY)) (hw : wsY = Cond.code y bytes maxL rety :: wsY') (hd : y.cls ≠ "java/lang/invoke/MethodHandle" ∧ y.cls ≠ "java/lang/invoke/VarHandle" ∧ (parseMethodDescriptor y.desc).map (fun d => d.parameters.length) = some n) (hrm : rm.cells = 0 ∧ rm.slots = 0 ∧ rm.frames + 1 ≤ R.frames ∧ 8 + (maxL + 11) + rm.locals ≤ R.locals)
    (hX1 : gm_Yok X1) (hXX : X A s s.heap → X1 A s s.heap) (isC : List Nat) (hC : isC.map (fun i => ws[i]?) = wc.map some) (hnd : va_nd isC = true) (hf : w1.map (fun q => q.1) = wc.map (fun q => q.1)) (isT : List Nat) (hT : isT.filterMap (fun i => tys[i]?) = tys1) (hn : As.length = n) (hsz : ls.size = nL) (hst : st0 = As.reverse ++ rest) (hrest : (rest.map fun v => v.category).sum ≤ 8) (hdg : decode cc pc = .ok (.invokestatic index, 3)) (hcs : cells ≤ R.cells ∧ slots ≤ R.slots)
    (kk : ∀ (H1 : Heap) (locs1 : List Loc), gm_H D A s (gm_sets ws isC w1) H1 locs1 → W p l e R s m args below meth c H1 locs1 cells slots Q (F0 m (pc + 3) ls (rv.toList ++ rest))) : W p l e R s m args below meth c H locs cells slots Q (F0 m pc ls st0) := by
  obtain ⟨hx, hb, hml, hr, hown, hts, hA, hK, hX, hlocks⟩ := id C0
  refine gm_go (a := As.toArray) (va_runS (As := As) (rest := rest) ⟨hx, hb, hml, hown, hts⟩ (hM H.size) (va_cwS n hts hG hw hrm.1 hrm.2.1 hd hrm.2.2) ⟨gm_Pc_blind hX1, fun U hU hW => gm_pre C0 hH isC hC hnd isT hT hX1 hXX U hU hW⟩ rfl hn hsz hst (lv_room hrest) hdg ⟨hcs.1, hcs.2⟩) hA hH isC hC hf kk
theorem gm_callO {x y : MethodName} {wsY wsY' : List Cond} {rm : Room} {b : Nat} {As : List Value} {rv : Option Value} {Cn owner : String} {Tn : u_T} {Nn ci index maxL q0 n : Nat} {bytes b0 : ByteArray} {m0 : Nat} {rety r0 : Option FieldType} {fs : List Value} (C0 : gm_C p s m args meth c D tys A X own cc nL ret Ts) (hH : gm_H D A s ws H locs) (hM : gm_Met l y wsY rm D tys1 X1 (.ref b :: As) wc rv w1) (hG : GoodIn Ts (va_wsO own index Cn owner x y wsY)) (hw : wsY = Cond.code y bytes maxL rety :: wsY') (h0 : Cond.code ⟨owner, x.name, x.desc⟩ b0 m0 r0 ∈ Ts) (hd : owner ≠ "java/lang/invoke/MethodHandle" ∧ owner ≠ "java/lang/invoke/VarHandle" ∧ (parseMethodDescriptor x.desc).map (fun d => d.parameters.length) = some n) (hrm : rm.cells = 0 ∧ rm.slots = 0 ∧ rm.frames + 1 ≤ R.frames ∧ 8 + (maxL + 11) + rm.locals ≤ R.locals)
    (hX1 : gm_Yok X1) (hXX : X A s s.heap → X1 A s s.heap) (isC : List Nat) (hC : isC.map (fun i => ws[i]?) = wc.map some) (hnd : va_nd isC = true) (hf : w1.map (fun q => q.1) = wc.map (fun q => q.1)) (isT : List Nat) (hT : isT.filterMap (fun i => tys[i]?) = tys1) (hq0 : ws[q0]? = some (b, .inr (ci, fs))) (hc : vwCl[ci]? = some (Cn, Tn, Nn)) (hn : As.length = n) (hsz : ls.size = nL) (hst : st0 = As.reverse ++ .ref b :: rest) (hrest : (rest.map fun v => v.category).sum ≤ 8) (hdg : decode cc pc = .ok (.invokevirtual index, 3)) (hcs : cells ≤ R.cells ∧ slots ≤ R.slots)
    (kk : ∀ (H1 : Heap) (locs1 : List Loc), gm_H D A s (gm_sets ws isC w1) H1 locs1 → W p l e R s m args below meth c H1 locs1 cells slots Q (F0 m (pc + 3) ls (rv.toList ++ rest))) : W p l e R s m args below meth c H locs cells slots Q (F0 m pc ls st0) := by
  obtain ⟨hx, hb, hml, hr, hown, hts, hA, hK, hX, hlocks⟩ := id C0
  refine gm_go (a := (Value.ref b :: As).toArray) (va_runU (As := As) (rest := rest) (b := b) ⟨hx, hb, hml, hown, hts⟩ (hM H.size) (va_cwO n hts hG hw hrm.1 hrm.2.1 h0 hd hrm.2.2) ⟨gm_Pc_blind hX1, va_recv hK hH.1 (ci := ci) (q0 := q0) hc hq0, fun U hU hW => gm_pre C0 hH isC hC hnd isT hT hX1 hXX U hU hW⟩ rfl hn hsz hst (lv_room hrest) hdg ⟨hcs.1, hcs.2⟩) hA hH isC hC hf kk
theorem gm_callU {y : MethodName} {wsY wsY' : List Cond} {rm : Room} {b : Nat} {As : List Value} {rv : Option Value} {Cn : String} {Tn : u_T} {Nn ci index maxL q0 n : Nat} {bytes : ByteArray} {rety : Option FieldType} {fs : List Value} (C0 : gm_C p s m args meth c D tys A X own cc nL ret Ts) (hH : gm_H D A s ws H locs) (hM : gm_Met l y wsY rm D tys1 X1 (.ref b :: As) wc rv w1) (hG : GoodIn Ts (va_wsSU own index y wsY)) (hw : wsY = Cond.code y bytes maxL rety :: wsY') (hd : y.name ≠ "<init>" ∧ (parseMethodDescriptor y.desc).map (fun d => d.parameters.length) = some n) (hrm : rm.cells = 0 ∧ rm.slots = 0 ∧ rm.frames + 1 ≤ R.frames ∧ 8 + (maxL + 11) + rm.locals ≤ R.locals)
    (hX1 : gm_Yok X1) (hXX : X A s s.heap → X1 A s s.heap) (isC : List Nat) (hC : isC.map (fun i => ws[i]?) = wc.map some) (hnd : va_nd isC = true) (hf : w1.map (fun q => q.1) = wc.map (fun q => q.1)) (isT : List Nat) (hT : isT.filterMap (fun i => tys[i]?) = tys1) (hq0 : ws[q0]? = some (b, .inr (ci, fs))) (hc : vwCl[ci]? = some (Cn, Tn, Nn)) (hn : As.length = n) (hsz : ls.size = nL) (hst : st0 = As.reverse ++ .ref b :: rest) (hrest : (rest.map fun v => v.category).sum ≤ 8) (hdg : decode cc pc = .ok (.invokespecial index, 3)) (hcs : cells ≤ R.cells ∧ slots ≤ R.slots)
    (kk : ∀ (H1 : Heap) (locs1 : List Loc), gm_H D A s (gm_sets ws isC w1) H1 locs1 → W p l e R s m args below meth c H1 locs1 cells slots Q (F0 m (pc + 3) ls (rv.toList ++ rest))) : W p l e R s m args below meth c H locs cells slots Q (F0 m pc ls st0) := by
  obtain ⟨hx, hb, hml, hr, hown, hts, hA, hK, hX, hlocks⟩ := id C0
  refine gm_go (a := (Value.ref b :: As).toArray) (va_runSU (As := As) (rest := rest) (b := b) (hK.1 ci _ hc).2 ⟨hx, hb, hml, hown, hts⟩ (hM H.size) (va_cwSU n hts hG hw hrm.1 hrm.2.1 hd hrm.2.2) ⟨gm_Pc_blind hX1, va_recv hK hH.1 (ci := ci) (q0 := q0) hc hq0, fun U hU hW => gm_pre C0 hH isC hC hnd isT hT hX1 hXX U hU hW⟩ rfl hn hsz hst (lv_room hrest) hdg ⟨hcs.1, hcs.2⟩) hA hH isC hC hf kk
theorem gm_get {C : String} {T : u_T} {N ci index a : Nat} {fs : List Value} {v : Value} (C0 : gm_C p s m args meth c D tys A X own cc nL ret Ts) (hH : gm_H D A s ws H locs) (hin : ∀ w ∈ u_ws C T N, w ∈ Ts) (q0 k i : Nat) (he : ws[q0]? = some (a, .inr (ci, fs))) (hc : vwCl[ci]? = some (C, T, N)) (hk : k < N) (hl : Ts[i]? = some (.fieldLink own index (T k).1 (T k).2.1 (T k).2.2.1)) (hv : fs[k]? = some v) (hdg : decode cc pc = .ok (.getfield index, 3)) (kk : W p l e R s m args below meth c H locs cells slots Q (F0 m (pc + 3) ls (v :: rest))) : W p l e R s m args below meth c H locs cells slots Q (F0 m pc ls (.ref a :: rest)) :=
  va_get (D := D) (cl := vwCl) (ci := ci) C0.1 C0.2.1 C0.2.2.2.2.2.1 hin C0.2.2.2.2.1 C0.2.2.2.2.2.2.2.1 hH.1 q0 he hc k hk (gm_at C0 i hl) (fun _ h => h) hv hdg kk
theorem gm_putf {C : String} {T : u_T} {N ci index a : Nat} {fs : List Value} {v : Value} {ty : FieldType} {ty0 : Nat → FieldType} (C0 : gm_C p s m args meth c D tys A X own cc nL ret Ts) (hH : gm_H D A s ws H locs) (hin : ∀ w ∈ u_ws C T N, w ∈ Ts) (hty : ∀ k, k < N → parseFieldDescriptor (T k).2.2.1 = some (ty0 k)) (hnm : ∀ a, a < N → ∀ b, b < N → a ≠ b → (T a).2.1 ≠ (T b).2.1) (q0 k i : Nat) (he : ws[q0]? = some (a, .inr (ci, fs))) (hc : vwCl[ci]? = some (C, T, N)) (hk : k < N) (hl : Ts[i]? = some (.fieldLink own index (T k).1 (T k).2.1 (T k).2.2.1)) (hfin : (T k).2.2.2 = false) (hd : ty0 k = ty) (hn : narrow ty v = v) (hfit : fits ty v = true) (hlen : k < fs.length) (hdg : decode cc pc = .ok (.putfield index, 3))
    (kk : ∀ (H1 : Heap) (locs1 : List Loc), gm_H D A s (ws.set q0 (a, .inr (ci, fs.set k v))) H1 locs1 → W p l e R s m args below meth c H1 locs1 cells slots Q (F0 m (pc + 3) ls rest)) : W p l e R s m args below meth c H locs cells slots Q (F0 m pc ls (v :: .ref a :: rest)) :=
  va_put (D := D) (cl := vwCl) (ci := ci) C0.1 C0.2.1 C0.2.2.2.2.2.1 hin ty0 hty hnm C0.2.2.2.2.1 C0.2.2.2.2.2.2.2.1 hH.1 hH.2.1 hH.2.2 q0 he hc k hk (gm_at C0 i hl) (fun _ h => h) hfin (by rw [hty k hk, hd]) hn hfit hlen hdg (fun H1 locs1 h1 h2 h3 => kk H1 locs1 ⟨h1, h2, h3⟩)
theorem gm_iald {a : Nat} {cA : ClassId} {n : Nat} {f : Nat → Int32} {i : Int32} (C0 : gm_C p s m args meth c D tys A X own cc nL ret Ts) (hH : gm_H D A s ws H locs) (hin : vp_in i n) (q0 t0 : Nat) (ha : ws[q0]? = some (a, .inl (cA, n, .inl f))) (ht : tys[t0]? = some (cA, .int)) (hdg : decode cc pc = .ok (.iaload, 1)) (kk : W p l e R s m args below meth c H locs cells slots Q (F0 m (pc + 1) ls (.int (f i.toNatClampNeg) :: rest))) : W p l e R s m args below meth c H locs cells slots Q (F0 m pc ls (.int i :: .ref a :: rest)) :=
  va_iald C0.1 C0.2.1 C0.2.2.2.2.2.2.2.1 hH.1 q0 t0 ha ht hin hdg kk
theorem gm_iast {a : Nat} {cA : ClassId} {n : Nat} {f : Nat → Int32} {i x : Int32} (C0 : gm_C p s m args meth c D tys A X own cc nL ret Ts) (hH : gm_H D A s ws H locs) (hin : vp_in i n) (q0 t0 : Nat) (ha : ws[q0]? = some (a, .inl (cA, n, .inl f))) (ht : tys[t0]? = some (cA, .int)) (hdg : decode cc pc = .ok (.iastore, 1)) (kk : ∀ (H1 : Heap) (locs1 : List Loc), gm_H D A s (ws.set q0 (a, .inl (cA, n, .inl (upd f i.toNatClampNeg x)))) H1 locs1 → W p l e R s m args below meth c H1 locs1 cells slots Q (F0 m (pc + 1) ls rest)) : W p l e R s m args below meth c H locs cells slots Q (F0 m pc ls (.int x :: .int i :: .ref a :: rest)) :=
  va_iast C0.1 C0.2.1 C0.2.2.2.2.2.2.2.1 hH.1 hH.2.1 hH.2.2 q0 t0 ha ht hin hdg (fun H1 locs1 h1 h2 h3 => kk H1 locs1 ⟨h1, h2, h3⟩)
theorem gm_alen {a : Nat} {cA : ClassId} {x : vp_A} {ty : FieldType} {v : Int32} (C0 : gm_C p s m args meth c D tys A X own cc nL ret Ts) (hH : gm_H D A s ws H locs) (q0 t0 : Nat) (ha : ws[q0]? = some (a, .inl (cA, x))) (ht : tys[t0]? = some (cA, ty)) (hv : Int32.ofNat x.1 = v) (hdg : decode cc pc = .ok (.arraylength, 1)) (kk : W p l e R s m args below meth c H locs cells slots Q (F0 m (pc + 1) ls (.int v :: rest))) : W p l e R s m args below meth c H locs cells slots Q (F0 m pc ls (.ref a :: rest)) :=
  va_alen C0.1 C0.2.1 C0.2.2.2.2.2.2.2.1 hH.1 q0 t0 ha ht hv hdg kk
theorem gm_iret {v : Int32} (C0 : gm_C p s m args meth c D tys A X own cc nL (some .int) Ts) (hH : gm_H D A s ws H locs) (hdg : decode cc pc = .ok (.ireturn, 1)) : W p l e R s m args below meth c H locs 0 0 (MQ below (gm_Q D tys A (some (.int v)) ws) args s 0 0 A) (F0 m pc ls [.int v]) := by
  obtain ⟨hx, hb, hml, hr, hown, hts, hA, hK, hX, hlocks⟩ := C0
  exact W.iret (v := v) hx hb hr (fun t ht hW => ⟨⟨rfl, by rw [ht]; exact hH.1, va_K.moved hW.alike hK, hH.2.1⟩, hH.2.2.F ht⟩) hH.2.2.2.2 hdg
theorem gm_zret {v : Int32} {ty : FieldType} (C0 : gm_C p s m args meth c D tys A X own cc nL (some ty) Ts) (hH : gm_H D A s ws H locs) (hn : narrow ty (.int v) = .int v) (hdg : decode cc pc = .ok (.ireturn, 1)) : W p l e R s m args below meth c H locs 0 0 (MQ below (gm_Q D tys A (some (.int v)) ws) args s 0 0 A) (F0 m pc ls [.int v]) := by
  obtain ⟨hx, hb, hml, hr, hown, hts, hA, hK, hX, hlocks⟩ := C0
  exact W.zret (v := v) hx hb hr hn (fun t ht hW => ⟨⟨rfl, by rw [ht]; exact hH.1, va_K.moved hW.alike hK, hH.2.1⟩, hH.2.2.F ht⟩) hH.2.2.2.2 hdg
theorem gm_vret (C0 : gm_C p s m args meth c D tys A X own cc nL none Ts) (hH : gm_H D A s ws H locs) (hdg : decode cc pc = .ok (.return_, 1)) : W p l e R s m args below meth c H locs 0 0 (MQ below (gm_Q D tys A none ws) args s 0 0 A) (F0 m pc ls []) := by
  obtain ⟨hx, hb, hml, hr, hown, hts, hA, hK, hX, hlocks⟩ := C0
  exact W.vret hx hb hr (fun t ht hW => ⟨⟨rfl, by rw [ht]; exact hH.1, va_K.moved hW.alike hK, hH.2.1⟩, hH.2.2.F ht⟩) hH.2.2.2.2 hdg
theorem gm_lret {v : Int64} (C0 : gm_C p s m args meth c D tys A X own cc nL (some .long) Ts) (hH : gm_H D A s ws H locs) (hdg : decode cc pc = .ok (.lreturn, 1)) : W p l e R s m args below meth c H locs 0 0 (MQ below (gm_Q D tys A (some (.long v)) ws) args s 0 0 A) (F0 m pc ls [.long v]) := by
  obtain ⟨hx, hb, hml, hr, hown, hts, hA, hK, hX, hlocks⟩ := C0
  exact W.lret (v := v) hx hb hr (fun t ht hW => ⟨⟨rfl, by rw [ht]; exact hH.1, va_K.moved hW.alike hK, hH.2.1⟩, hH.2.2.F ht⟩) hH.2.2.2.2 hdg
theorem gm_zald {a : Nat} {cA : ClassId} {n : Nat} {f : Nat → Int32} {i : Int32} (C0 : gm_C p s m args meth c D tys A X own cc nL ret Ts) (hH : gm_H D A s ws H locs) (hin : vp_in i n) (q0 t0 : Nat) (ha : ws[q0]? = some (a, .inl (cA, n, .inl f))) (ht : tys[t0]? = some (cA, .boolean)) (hdg : decode cc pc = .ok (.baload, 1)) (kk : W p l e R s m args below meth c H locs cells slots Q (F0 m (pc + 1) ls (.int (f i.toNatClampNeg) :: rest))) : W p l e R s m args below meth c H locs cells slots Q (F0 m pc ls (.int i :: .ref a :: rest)) :=
  va_zald C0.1 C0.2.1 C0.2.2.2.2.2.2.2.1 hH.1 q0 t0 ha ht hin hdg kk
theorem gm_zast {a : Nat} {cA : ClassId} {n : Nat} {f : Nat → Int32} {i x : Int32} (C0 : gm_C p s m args meth c D tys A X own cc nL ret Ts) (hH : gm_H D A s ws H locs) (hin : vp_in i n) (q0 t0 : Nat) (ha : ws[q0]? = some (a, .inl (cA, n, .inl f))) (ht : tys[t0]? = some (cA, .boolean)) (hdg : decode cc pc = .ok (.bastore, 1)) (kk : ∀ (H1 : Heap) (locs1 : List Loc), gm_H D A s (ws.set q0 (a, .inl (cA, n, .inl (upd f i.toNatClampNeg (vp_nar .boolean x))))) H1 locs1 → W p l e R s m args below meth c H1 locs1 cells slots Q (F0 m (pc + 1) ls rest)) : W p l e R s m args below meth c H locs cells slots Q (F0 m pc ls (.int x :: .int i :: .ref a :: rest)) :=
  va_zast C0.1 C0.2.1 C0.2.2.2.2.2.2.2.1 hH.1 hH.2.1 hH.2.2 q0 t0 ha ht hin hdg (fun H1 locs1 h1 h2 h3 => kk H1 locs1 ⟨h1, h2, h3⟩)
theorem gm_aldq {a : Nat} {cA : ClassId} {Cq : String} {n : Nat} {f : Nat → Option Nat} {i : Int32} (C0 : gm_C p s m args meth c D tys A X own cc nL ret Ts) (hH : gm_H D A s ws H locs) (hin : vp_in i n) (q0 t0 : Nat) (ha : ws[q0]? = some (a, .inl (cA, n, .inr (.inr (.inr (.inr f)))))) (ht : tys[t0]? = some (cA, .object Cq)) (hdg : decode cc pc = .ok (.aaload, 1)) (kk : W p l e R s m args below meth c H locs cells slots Q (F0 m (pc + 1) ls (va_rf (f i.toNatClampNeg) :: rest))) : W p l e R s m args below meth c H locs cells slots Q (F0 m pc ls (.int i :: .ref a :: rest)) :=
  va_aldq C0.1 C0.2.1 C0.2.2.2.2.2.2.2.1 hH.1 q0 t0 ha ht hin hdg kk
theorem gm_aret {a : Nat} {ty : FieldType} (C0 : gm_C p s m args meth c D tys A X own cc nL (some (.array ty)) Ts) (hH : gm_H D A s ws H locs) (hdg : decode cc pc = .ok (.areturn, 1)) : W p l e R s m args below meth c H locs 0 0 (MQ below (gm_Q D tys A (some (.ref a)) ws) args s 0 0 A) (F0 m pc ls [.ref a]) := by
  obtain ⟨hx, hb, hml, hr, hown, hts, hA, hK, hX, hlocks⟩ := C0
  exact W.aret (v := .ref a) hx hb hr (Or.inr ⟨_, rfl⟩) (Or.inr ⟨a, rfl⟩) (fun t ht hW => ⟨⟨rfl, by rw [ht]; exact hH.1, va_K.moved hW.alike hK, hH.2.1⟩, hH.2.2.F ht⟩) hH.2.2.2.2 hdg
end GMR
/-- the six kinds, the two images, as the constructor lays them -/
def gm_kd (a b c d e f : Nat) : Nat → Option Nat := va_up (va_up (va_up (va_up (va_up (va_up (fun _ => none) 0 (some a)) 1 (some b)) 2 (some c)) 3 (some d)) 4 (some e)) 5 (some f)
def gm_im (a b : Nat) : Nat → Option Nat := va_up (va_up (fun _ => none) 0 (some a)) 1 (some b)
theorem gm_six {i : Int32} (h : vp_in i 6) : i = 0 ∨ i = 1 ∨ i = 2 ∨ i = 3 ∨ i = 4 ∨ i = 5 := by
  obtain ⟨j, hj, rfl⟩ := vp_in_of h (by decide)
  rcases (show j = 0 ∨ j = 1 ∨ j = 2 ∨ j = 3 ∨ j = 4 ∨ j = 5 by omega) with rfl | rfl | rfl | rfl | rfl | rfl <;> decide
def gm_kf (a b c d e f : Nat) (k : Nat) : Nat := (gm_kd a b c d e f k).getD 0
theorem gm_kf_eq {a b c d e f : Nat} {i : Int32} (h : vp_in i 6) : va_rf (gm_kd a b c d e f i.toNatClampNeg) = .ref (gm_kf a b c d e f i.toNatClampNeg) := by
  rcases gm_six h with rfl | rfl | rfl | rfl | rfl | rfl <;> rfl
theorem gm_two {i : Int32} (h : vp_in i 2) (h0 : ¬ i = 0) : i = 1 := by
  obtain ⟨j, hj, rfl⟩ := vp_in_of h (by decide)
  rcases (show j = 0 ∨ j = 1 by omega) with rfl | rfl
  · exact absurd rfl h0
  · rfl
/-- the pairs of unlike endings, as the class's own row holds them; how they are reached -/
def gm_pairs : Nat → Int32 := fun j => ([1, 2, 3, 4, 5, 6, 7, 12, 13, 14, 15, 16, 17, 23, 24, 25, 26, 27, 34, 35, 36, 37, 45, 46, 47, 56, 57, 67] : List Int32).getD j 0
def gm_XP (tP : Nat) : gm_Y := fun A U H => va_Z "OnlyRhymes" "PAIRS" "[I" (.ref tP) A U H ∧ va_T .int tP 28 (fun j => .int (gm_pairs j)) A U H ∧ va_Nw (.fieldLinkNest RX9 69 "OnlyRhymes" "PAIRS" "[I" "OnlyRhymes") U
theorem gm_XP_ok (tP : Nat) : gm_Yok (gm_XP tP) := by
  refine ⟨fun A u U H h q => ?_, fun A U H H1 h q => ⟨q.1.kept h, q.2.1.kept h, q.2.2⟩, fun A B U H h q => ⟨q.1.narrow h, q.2.1.narrow h, q.2.2⟩⟩
  have hv : u.vm.Alike U.vm := by
    rcases h with h | h
    · rw [h]; exact Vm.Alike.refl U.vm
    · exact h.alike
  refine ⟨q.1.moved hv, q.2.1.moved hv, ?_⟩
  rcases h with h | h
  · exact va_Nw.same rfl h q.2.2
  · exact va_Nw.warmF h q.2.2
