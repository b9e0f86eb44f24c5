/-! ===== the frame rule for a contract; calls in a world of two halves ===== -/
theorem gm_conseq {l : Launch} {y : MethodName} {ws : List Cond} {rm : Room} {Pc Pc' : Array Value → State → Prop} {Qc Qc' : Array Value → State → Outcome → State → Prop} {mc ms : Nat} {free free' : Addr → Prop} (h : Met l y ws rm Pc Qc mc ms free) (hP : ∀ a s, Pc' a s → Pc a s) (hQ : ∀ a s o t, Pc' a s → s.WarmedH t.vm → Qc a s o t → Qc' a s o t) (hf : ∀ q, free q → free' q) : Met l y ws rm Pc' Qc' mc ms free' := by
  intro p e h1 h2 h3 s m args below h4 h5 h6 h7
  obtain ⟨n, o, a, b, c, d, L, hF, hL⟩ := h p e h1 h2 h3 s m args below h4 h5 (hP _ _ h6) h7
  exact ⟨n, o, a, b, c, hQ _ _ _ _ h6 hF.2.1 d, L, hF, fun q hq => hf _ (hL q hq)⟩
theorem gm_frame {l : Launch} {y : MethodName} {Ts : List Cond} {rm : Room} {D : va_G} {tys tys1 : List (ClassId × FieldType)} {X : gm_Y} {av : List Value} {ws wc w1 : va_W} {rv : Option Value} (hM : gm_Met l y Ts rm D tys1 X av wc rv w1) (isC : List Nat) (hC : isC.map (fun i => ws[i]?) = wc.map some) (hnd : va_nd isC = true) (hf : w1.map (fun q => q.1) = wc.map (fun q => q.1)) (isT : List Nat) (hT : isT.filterMap (fun i => tys[i]?) = tys1) (hX : gm_Yok X) : gm_Met l y Ts rm D tys X av ws rv (gm_sets ws isC w1) := by
  intro sz
  have hsub : ∀ q, va_A wc sz q → va_A ws sz q := by
    intro q h
    rcases h with ⟨k, e, h⟩ | h
    · obtain ⟨i, -, h2⟩ := gm_places hC k (q, e) h
      exact Or.inl ⟨i, e, h2⟩
    · exact Or.inr h
  refine gm_conseq (hM sz) (fun a s hp => ?_) (fun a s o t hp hW hq => ?_) hsub
  · obtain ⟨q0, q1, qP, qK, qD, qX⟩ := hp
    refine ⟨q0, q1, fun k q hq => ?_, qK.sub (tys' := tys1) isT hT, qD.sub (ws' := wc) isC hnd hC, hX.2.2 _ _ s s.heap hsub qX⟩
    obtain ⟨i, -, h2⟩ := gm_places hC k q hq
    exact qP i q h2
  · obtain ⟨q0, q1, qP, qK, qD, qX⟩ := hp
    obtain ⟨⟨ho, hP1, -, -⟩, hz, hk⟩ := hq
    have hH : gm_H D (va_A ws sz) s ws s.heap [] := ⟨qP, by subst q1; exact qD.self, va_S.rf⟩
    have hS1 : va_S (va_A ws sz) s.heap t.heap [] := ⟨hz, fun q h1 h2 => hk q h1 (fun z => h2 (hsub q z)), fun _ h => by cases h⟩
    have h2 := gm_put hH isC hC hf (fun q h1 h2 => hk q h1 (by subst q1; exact h2)) hP1 hS1
    exact ⟨⟨ho, h2.1, va_K.moved hW.alike qK, h2.2.1⟩, hz, fun q h1 h2 => hk q h1 (fun z => h2 (hsub q z))⟩
theorem gm_joinA {A0 : Nat → Prop} {D : va_G} {cl : List vw_C} {a R w1 : va_W} {H H1 : Heap} (hP : va_P D cl (a ++ R) H) (hD : va_D A0 (a ++ R)) (hk : ∀ q : Nat, q < H.size → ¬ va_A a H.size q → H1[q]? = H[q]?) (hF : ∀ q, va_A a H.size q → A0 q) (hP1 : va_P D cl w1 H1) (hD1 : va_D (va_A a H.size) w1) : va_P D cl (w1 ++ R) H1 ∧ va_D A0 (w1 ++ R) := by
  have right : ∀ (k : Nat) (q : Nat × va_E), R[k]? = some q → (a ++ R)[a.length + k]? = some q := fun k q hq => by
    rw [List.getElem?_append_right (by omega), Nat.add_sub_cancel_left]
    exact hq
  have apart : ∀ (k : Nat) (q : Nat × va_E), R[k]? = some q → q.1 < H.size ∧ ¬ va_A a H.size q.1 := by
    intro k q hq
    have hl := (hP _ q (right k q hq)).lt
    refine ⟨hl, fun h => ?_⟩
    rcases h with ⟨k2, e, h⟩ | h
    · have hlt := (List.getElem?_eq_some_iff.mp h).1
      have := hD.1 k2 (a.length + k) (q.1, e) q (by rw [List.getElem?_append_left hlt]; exact h) (right k q hq) rfl
      omega
    · omega
  refine ⟨va_P.app hP1 (fun k q hq => ?_), va_D.app (hD1.weaken (fun k q _ h => hF q.1 h)) ⟨fun i j y z hy hz hyz => ?_, fun k q hq => hD.2 _ q (right k q hq)⟩ (fun i j y z hy hz hyz => ?_)⟩
  · obtain ⟨g1, g2⟩ := apart k q hq
    exact (hP _ q (right k q hq)).kept (hk q.1 g1 g2)
  · have := hD.1 _ _ y z (right i y hy) (right j z hz) hyz
    omega
  · exact (apart j z hz).2 (by rw [← hyz]; exact hD1.2 i y hy)
section GMA
variable {p : Program} {l : Launch} {e : Env} {R : Room} {s : State} {m : MethodId} {args : Array Value} {below : List Frame} {meth : Method} {c : Code} {H : Heap} {locs : List Loc} {cells slots : Nat} {Q : State → Prop}
variable {cc : ByteArray} {pc nL : Nat} {ls : Array Slot} {rest st0 : List Value} {D : va_G} {tys tys1 : List (ClassId × FieldType)} {A : Nat → Prop} {X X1 : gm_Y} {own : String} {Ts : List Cond} {a a1 b : va_W}
theorem gm_freeA (hA : ∀ q : Nat, s.heap.size ≤ q → A q) (hH : gm_H D A s (a ++ b) H locs) : ∀ q, va_A a H.size q → A q := by
  intro q h
  rcases h with ⟨k, e, h⟩ | h
  · have hlt := (List.getElem?_eq_some_iff.mp h).1
    exact hH.2.1.2 k (q, e) (by rw [List.getElem?_append_left hlt]; exact h)
  · exact hA q (Nat.le_trans hH.2.2.1 h)
/-- a virtual call on the object that stands first in the left half; the contract speaks of the whole left half -/
theorem gm_callL {y : MethodName} {wsY wsY' : List Cond} {rm : Room} {q : Nat} {As : List Value} {rv : Option Value} {Cn : String} {Tn : u_T} {Nn ci index maxL n : Nat} {bytes : ByteArray} {rety : Option FieldType} {fs : List Value} (S : CallFix p m c cc nL s args Ts own) (hA : ∀ q : Nat, s.heap.size ≤ q → A q) (hK : va_K D vwCl tys s) (hX1 : gm_Yok X1) (hX : X1 A s s.heap) (hH : gm_H D A s (a ++ b) H locs) (hM : gm_Met l y wsY rm D tys1 X1 (.ref q :: As) a rv a1) (hG : GoodIn Ts (wsV own index Cn y wsY)) (hw : wsY = Cond.code y bytes maxL rety :: wsY') (hd : y.cls = Cn ∧ y.cls ≠ "java/lang/invoke/MethodHandle" ∧ y.cls ≠ "java/lang/invoke/VarHandle" ∧ (parseMethodDescriptor y.desc).map (fun d => d.parameters.length) = some n) (hrm : rm.cells = 0 ∧ rm.slots = 0 ∧ rm.frames + 1 ≤ R.frames ∧ 8 + (maxL + 11) + rm.locals ≤ R.locals)
    (isT : List Nat) (hT : isT.filterMap (fun i => tys[i]?) = tys1) (hq0 : a[0]? = some (q, .inr (ci, fs))) (hc : vwCl[ci]? = some (Cn, Tn, Nn)) (hn : As.length = n) (hsz : ls.size = nL) (hst : st0 = As.reverse ++ .ref q :: rest) (hrest : (rest.map fun v => v.category).sum ≤ 8) (hdg : decode cc pc = .ok (.invokevirtual index, 3)) (hcs : cells ≤ R.cells ∧ slots ≤ R.slots)
    (kk : ∀ (H1 : Heap) (locs1 : List Loc), gm_H D A s (a1 ++ b) H1 locs1 → W p l e R s m args below meth c H1 locs1 cells slots Q (F0 m (pc + 3) ls (rv.toList ++ rest))) : W p l e R s m args below meth c H locs cells slots Q (F0 m pc ls st0) := by
  obtain ⟨hx, hb, hml, hown, hts⟩ := S
  have hfree := gm_freeA hA hH
  have hlt : 0 < a.length := (List.getElem?_eq_some_iff.mp hq0).1
  have hrun := va_runV (R := R) (e := e) (below := below) (meth := meth) (locs := locs) (cells := cells) (slots := slots) (As := As) (rest := rest) (b := q) (g := F0 m pc ls st0) (H := H) ⟨hx, hb, hml, hown, hts⟩ (hM H.size) (cwV n hts hG hw hrm.1 hrm.2.1 hd hrm.2.2) ⟨gm_Pc_blind hX1, va_recv hK hH.1 (ci := ci) (q0 := 0) hc (by rw [List.getElem?_append_left hlt]; exact hq0), fun U hU hW => ⟨rfl, by rw [hU], by
      rw [hU]
      intro k x hx9
      exact hH.1 k x (by rw [List.getElem?_append_left (List.getElem?_eq_some_iff.mp hx9).1]; exact hx9), va_K.moved hW.alike (hK.sub (tys' := tys1) isT hT), ⟨fun i j x z h1 h2 h3 => hH.2.1.1 i j x z (by rw [List.getElem?_append_left (List.getElem?_eq_some_iff.mp h1).1]; exact h1) (by rw [List.getElem?_append_left (List.getElem?_eq_some_iff.mp h2).1]; exact h2) h3, fun _ _ _ => trivial⟩, by
      rw [hU]
      exact hX1.2.2 A _ U H hfree (hX1.2.1 A U s.heap H (fun a h1 h2 => hH.2.2.2.1 a h1 h2) (hX1.1 A s U s.heap (Or.inr hW) hX))⟩⟩ rfl hn hsz hst (lv_room hrest) hdg ⟨hcs.1, hcs.2⟩
  intro T hT9 X9
  have hS := hH.2.2
  obtain ⟨v, st₀, t, T', L, h0, X', hL, e1, e2, ⟨⟨hv, hP1, hK1, hD1⟩, hz, hk⟩, st⟩ := hrun T hT9 X9
  cases hv
  rw [h0] at hz hk
  have hS1 : va_S A s.heap T'.heap (locs ++ L) := ⟨Nat.le_trans hS.1 (by rw [e1]; exact hz), fun q h1 h2 => by rw [e1, hk q (Nat.lt_of_lt_of_le h1 hS.1) (fun z => h2 (hfree q z))]; exact hS.2.1 q h1 h2, fun q hq => by
      rcases List.mem_append.mp hq with h | h
      · exact hS.2.2 q h
      · exact hfree _ (hL q h)⟩
  obtain ⟨j1, j2⟩ := gm_joinA hH.1 hH.2.1 (H1 := T'.heap) (fun q h1 h2 => by rw [e1]; exact hk q h1 h2) hfree (by rw [e1]; exact hP1) hD1
  obtain ⟨t2, g1, g2⟩ := kk T'.heap (locs ++ L) ⟨j1, j2, hS1⟩ T' rfl X'
  exact ⟨t2, st t2 g1, g2⟩
theorem gm_swap (hH : gm_H D A s (a ++ b) H locs) : gm_H D A s (b ++ a) H locs := ⟨(gm_rot a b hH.1 hH.2.1).1, (gm_rot a b hH.1 hH.2.1).2, hH.2.2⟩
end GMA
