/-! ===== constructors ===== -/
theorem gm_cE {D : va_G} {cl : List vw_C} {tys : List (ClassId × FieldType)} {s : State} {c c' : ClassId} {ty : FieldType} (hK : va_K D cl tys s) (i j : Nat) (h1 : tys[i]? = some (c, ty)) (h2 : tys[j]? = some (c', ty)) (hn : ∀ C, ty ≠ .object C) : c = c' := by
  have r1 := (hK.2 i _ h1).2
  have r2 := (hK.2 j _ h2).2
  cases ty with
  | object C => exact absurd rfl (hn C)
  | _ => exact Option.some.inj (r1.symm.trans r2)
def gm_nestw : List Cond := [.methodLinkNest RX10 11 yX9_init "OnlyRhymes", .methodLinkNest RX10 31 yX6_init "OnlyRhymes", .methodLinkNest RX10 38 yX2_init "OnlyRhymes", .methodLinkNest RX10 45 yX1_init "OnlyRhymes", .methodLinkNest RX10 70 yX7_init "OnlyRhymes", .methodLinkNest RX10 73 yX4_init "OnlyRhymes", .methodLinkNest RX4 1 yX7_init "OnlyRhymes", .methodLinkNest RX10 76 yX3_init "OnlyRhymes", .methodLinkNest RX3 1 yX7_init "OnlyRhymes", .methodLinkNest RX10 79 yX8_init "OnlyRhymes", .methodLinkNest RX8 1 yX3_init "OnlyRhymes", .methodLinkNest RX10 82 yX5_init "OnlyRhymes", .methodLinkNest RX5 1 yX4_init "OnlyRhymes", .methodLinkNest RX10 85 yX0_init "OnlyRhymes", .methodLinkNest RX0 1 yX4_init "OnlyRhymes"]
def gm_castw : List Cond := [.castable RX4 RX7, .castable RX3 RX7, .castable RX8 RX7, .castable RX5 RX7, .castable RX0 RX7]
def gm_N : gm_Y := fun _ U _ => (∀ w ∈ gm_nestw, va_Nw w U) ∧ va_AO RX9 U ∧ va_AO RX7 U ∧ ∀ w ∈ gm_castw, va_Nw w U
theorem gm_N_ok : gm_Yok gm_N := by
  refine ⟨fun A u U H h q => ?_, fun _ _ _ _ _ q => q, fun _ _ _ _ _ q => q⟩
  have hv : u.vm.Alike U.vm := by
    rcases h with h | h
    · rw [h]; exact Vm.Alike.refl U.vm
    · exact h.alike
  refine ⟨fun w hw => ?_, q.2.1.moved hv, q.2.2.1.moved hv, fun w hw => ?_⟩
  · have hq := q.1 w hw
    simp only [gm_nestw, List.mem_cons, List.not_mem_nil, or_false] at hw
    rcases h with h | h
    · rcases hw with rfl | rfl | rfl | rfl | rfl | rfl | rfl | rfl | rfl | rfl | rfl | rfl | rfl | rfl | rfl <;> exact va_Nw.same rfl h hq
    · rcases hw with rfl | rfl | rfl | rfl | rfl | rfl | rfl | rfl | rfl | rfl | rfl | rfl | rfl | rfl | rfl <;> exact va_Nw.warmM h hq
  · have hq := q.2.2.2 w hw
    simp only [gm_castw, List.mem_cons, List.not_mem_nil, or_false] at hw
    rcases h with h | h
    · rcases hw with rfl | rfl | rfl | rfl | rfl <;> exact va_Nw.same rfl h hq
    · rcases hw with rfl | rfl | rfl | rfl | rfl <;> exact va_Nw.warmC h hq
def gm_XI (tP : Nat) : gm_Y := fun A U H => gm_XP tP A U H ∧ gm_N A U H
theorem gm_XI_ok (tP : Nat) : gm_Yok (gm_XI tP) := ⟨fun A u U H h q => ⟨(gm_XP_ok tP).1 A u U H h q.1, gm_N_ok.1 A u U H h q.2⟩, fun A U H H1 h q => ⟨(gm_XP_ok tP).2.1 A U H H1 h q.1, q.2⟩, fun A B U H h q => ⟨(gm_XP_ok tP).2.2 A B U H h q.1, q.2⟩⟩

abbrev riX7 : Room := { frames := 1, cells := 0, slots := 0, locals := 20 }

set_option maxRecDepth 100000 in
set_option maxHeartbeats 8000000 in
theorem iX7 (l : Launch) (dC : Nat → ClassId) (dI : Nat → Nat → Nat) (q sz : Nat) (ci : Nat) : Met l yX7_init wsX7_init riX7 (gm_Pc (dC, dI) [] gm_N [.ref q] [(q, .inr (ci, []))] sz) (va_Qv (fun _ : Unit => True) (fun _ t => va_P (dC, dI) vwCl [(q, .inr (ci, []))] t.heap ∧ va_K (dC, dI) vwCl [] t ∧ va_D (va_A [(q, .inr (ci, []))] sz) [(q, .inr (ci, []))]) (va_A [(q, .inr (ci, []))] sz)) 0 0 (va_A [(q, .inr (ci, []))] sz) := by
  refine Met.ofW (cc := cX7_init) (maxL := 1) (ret := none) (by decide +kernel) rfl ?_
  intro p e s m args below meth c s₁ B hml hv
  obtain ⟨rfl, hsz, hP, hK, hD0, hX⟩ := hv
  have hx := B.exec
  have hb := B.bytes
  have hr := B.returns
  have hts := atoms_spec (ws := wsX7_init) B.pre
  have hown : s.vm.findClass RX7 = some m.cls := findClass_of_methodNamed B.named
  have hlocks := B.notSynchronized
  have hin : meth.name = "<init>" := (name_of_methodNamed B.named B.method).1
  subst hsz
  have hD := hD0.self (sz := s.heap.size)
  generalize hAe : va_A [(q, .inr (ci, []))] s.heap.size = A at hD hX ⊢
  have hA : ∀ q : Nat, s.heap.size ≤ q → A q := fun q h => by rw [← hAe]; exact Or.inr h
  have hS : va_S A s.heap s.heap [] := va_S.rf
  have hP : va_P (dC, dI) vwCl [(q, .inr (ci, []))] s.heap := hP
  have hl := lv_entry ([.ref q]) (n := 1) (Nat.le_of_ble_eq_true rfl)
  rw [lg_entry_eq]
  generalize (lg_sl ([.ref q]) ++ List.replicate (1 - (lg_sl ([.ref q])).length) Slot.unset).toArray = ls at hl ⊢
  have hl : lv_has ls 1 [(0, .ref q)] := hl
  refine lv_aload_n hx hb dX7_init_0 rfl (lv_at hl 0 rfl) ?_
  refine W.objInit hx hb hown (hts (.methodLink RX7 1 objectInit) (List.mem_of_getElem? (i := 1) rfl)) (hts (.instanceMethod objectInit) (List.mem_of_getElem? (i := 2) rfl)) (hts (.code objectInit ⟨#[0xb1]⟩ 1 none) (List.mem_of_getElem? (i := 3) rfl)) rfl (by rw [hml]; exact hl.1) rfl dX7_init_1 (Nat.le_of_ble_eq_true rfl) (Nat.le_of_ble_eq_true rfl) ?_
  refine W.eq (g2 := F0 m 4 ls []) rfl ?_
  have hP9 := hP.sub (ws' := [(q, .inr (ci, []))]) [0] rfl
  exact W.vret hx hb hr (fun t ht hW => ⟨⟨(), rfl, trivial, by rw [ht]; exact hP9, va_K.moved hW.alike hK, hD⟩, hS.F ht⟩) hS.2.2 dX7_init_4

abbrev riX4 : Room := { frames := 2, cells := 0, slots := 0, locals := 40 }

set_option maxRecDepth 100000 in
set_option maxHeartbeats 8000000 in
theorem iX4 (l : Launch) (dC : Nat → ClassId) (dI : Nat → Nat → Nat) (q sz : Nat) (ci : Nat) : Met l yX4_init wsX4_init riX4 (gm_Pc (dC, dI) [] gm_N [.ref q] [(q, .inr (ci, []))] sz) (va_Qv (fun _ : Unit => True) (fun _ t => va_P (dC, dI) vwCl [(q, .inr (ci, []))] t.heap ∧ va_K (dC, dI) vwCl [] t ∧ va_D (va_A [(q, .inr (ci, []))] sz) [(q, .inr (ci, []))]) (va_A [(q, .inr (ci, []))] sz)) 0 0 (va_A [(q, .inr (ci, []))] sz) := by
  refine Met.ofW (cc := cX4_init) (maxL := 1) (ret := none) (by decide +kernel) rfl ?_
  intro p e s m args below meth c s₁ B hml hv
  obtain ⟨rfl, hsz, hP, hK, hD0, hX⟩ := hv
  have hx := B.exec
  have hb := B.bytes
  have hr := B.returns
  have hts := atoms_spec (ws := wsX4_init) B.pre
  have hown : s.vm.findClass RX4 = some m.cls := findClass_of_methodNamed B.named
  have hlocks := B.notSynchronized
  have hin : meth.name = "<init>" := (name_of_methodNamed B.named B.method).1
  subst hsz
  have hD := hD0.self (sz := s.heap.size)
  generalize hAe : va_A [(q, .inr (ci, []))] s.heap.size = A at hD hX ⊢
  have hA : ∀ q : Nat, s.heap.size ≤ q → A q := fun q h => by rw [← hAe]; exact Or.inr h
  have hS : va_S A s.heap s.heap [] := va_S.rf
  have hP : va_P (dC, dI) vwCl [(q, .inr (ci, []))] s.heap := hP
  have hl := lv_entry ([.ref q]) (n := 1) (Nat.le_of_ble_eq_true rfl)
  rw [lg_entry_eq]
  generalize (lg_sl ([.ref q]) ++ List.replicate (1 - (lg_sl ([.ref q])).length) Slot.unset).toArray = ls at hl ⊢
  have hl : lv_has ls 1 [(0, .ref q)] := hl
  refine lv_aload_n hx hb dX4_init_0 rfl (lv_at hl 0 rfl) ?_
  have hFc := va_free (wc := [(q, .inr (ci, []))]) hD hS hA [0] rfl
  have hDc := hD.sub (ws' := [(q, .inr (ci, []))]) [0] rfl rfl
  refine va_callv (va_runIN (host := "OnlyRhymes") (As := []) (rest := []) ⟨hx, hb, hml, hown, hts⟩ (iX7 l dC dI q s.heap.size ci) ⟨va_cnB 0 hts gX4_init_X7_init_n1 rfl rfl rfl (hX.1 (.methodLinkNest RX4 1 yX7_init "OnlyRhymes") (by simp [gm_nestw])) (hts (.initialized RX7) (List.mem_of_getElem? (i := 2) rfl)) (by decide +kernel) ⟨Nat.le_of_ble_eq_true rfl, Nat.le_of_ble_eq_true rfl⟩, rfl, (hts (.instanceMethod yX7_init) (List.mem_of_getElem? (i := 1) rfl))⟩ ⟨gm_Pc_blind gm_N_ok, fun U hU hW => ⟨rfl, by rw [hU], by rw [hU]; exact hP.sub [0] rfl, va_K.moved hW.alike (hK.sub (tys' := []) [] rfl), hDc.weaken (fun _ _ _ _ => trivial), gm_N_ok.1 _ s U U.heap (Or.inr hW) hX⟩⟩ rfl rfl hl.1 rfl (lv_room (Nat.le_of_ble_eq_true rfl)) dX4_init_1 ⟨(show 0 + 0 ≤ 0 by decide +kernel), (show 0 + 0 ≤ 0 by decide +kernel)⟩) hS (fun q _ h => hFc q h) hFc (fun u t H1 locs ht hvm hw hB hz1 hk1 hS => ?_)
  obtain ⟨hP1, hK1, hD1⟩ := hB
  rw [ht] at hP1
  have hK1 := va_K.moved hvm.symm hK1
  obtain ⟨hP, hD⟩ := va_join (wr := []) (w1 := [(q, .inr (ci, []))]) hP hD [0] [] rfl rfl (by decide) (by decide) hk1 hFc hP1 hD1
  generalize H1 = H at hP hS ⊢
  have hP : va_P (dC, dI) vwCl [(q, .inr (ci, []))] H := hP
  have hD : va_D A [(q, .inr (ci, []))] := hD
  refine W.widen (k := 0) (n := 0) (by decide +kernel) (by decide +kernel) ?_
  have hP9 := hP.sub (ws' := [(q, .inr (ci, []))]) [0] rfl
  exact W.vret hx hb hr (fun t ht hW => ⟨⟨(), rfl, trivial, by rw [ht]; exact hP9, va_K.moved hW.alike hK, hD⟩, hS.F ht⟩) hS.2.2 dX4_init_4

abbrev riX3 : Room := { frames := 2, cells := 0, slots := 0, locals := 40 }

set_option maxRecDepth 100000 in
set_option maxHeartbeats 8000000 in
theorem iX3 (l : Launch) (dC : Nat → ClassId) (dI : Nat → Nat → Nat) (q sz : Nat) (ci : Nat) : Met l yX3_init wsX3_init riX3 (gm_Pc (dC, dI) [] gm_N [.ref q] [(q, .inr (ci, []))] sz) (va_Qv (fun _ : Unit => True) (fun _ t => va_P (dC, dI) vwCl [(q, .inr (ci, []))] t.heap ∧ va_K (dC, dI) vwCl [] t ∧ va_D (va_A [(q, .inr (ci, []))] sz) [(q, .inr (ci, []))]) (va_A [(q, .inr (ci, []))] sz)) 0 0 (va_A [(q, .inr (ci, []))] sz) := by
  refine Met.ofW (cc := cX3_init) (maxL := 1) (ret := none) (by decide +kernel) rfl ?_
  intro p e s m args below meth c s₁ B hml hv
  obtain ⟨rfl, hsz, hP, hK, hD0, hX⟩ := hv
  have hx := B.exec
  have hb := B.bytes
  have hr := B.returns
  have hts := atoms_spec (ws := wsX3_init) B.pre
  have hown : s.vm.findClass RX3 = some m.cls := findClass_of_methodNamed B.named
  have hlocks := B.notSynchronized
  have hin : meth.name = "<init>" := (name_of_methodNamed B.named B.method).1
  subst hsz
  have hD := hD0.self (sz := s.heap.size)
  generalize hAe : va_A [(q, .inr (ci, []))] s.heap.size = A at hD hX ⊢
  have hA : ∀ q : Nat, s.heap.size ≤ q → A q := fun q h => by rw [← hAe]; exact Or.inr h
  have hS : va_S A s.heap s.heap [] := va_S.rf
  have hP : va_P (dC, dI) vwCl [(q, .inr (ci, []))] s.heap := hP
  have hl := lv_entry ([.ref q]) (n := 1) (Nat.le_of_ble_eq_true rfl)
  rw [lg_entry_eq]
  generalize (lg_sl ([.ref q]) ++ List.replicate (1 - (lg_sl ([.ref q])).length) Slot.unset).toArray = ls at hl ⊢
  have hl : lv_has ls 1 [(0, .ref q)] := hl
  refine lv_aload_n hx hb dX3_init_0 rfl (lv_at hl 0 rfl) ?_
  have hFc := va_free (wc := [(q, .inr (ci, []))]) hD hS hA [0] rfl
  have hDc := hD.sub (ws' := [(q, .inr (ci, []))]) [0] rfl rfl
  refine va_callv (va_runIN (host := "OnlyRhymes") (As := []) (rest := []) ⟨hx, hb, hml, hown, hts⟩ (iX7 l dC dI q s.heap.size ci) ⟨va_cnB 0 hts gX3_init_X7_init_n1 rfl rfl rfl (hX.1 (.methodLinkNest RX3 1 yX7_init "OnlyRhymes") (by simp [gm_nestw])) (hts (.initialized RX7) (List.mem_of_getElem? (i := 2) rfl)) (by decide +kernel) ⟨Nat.le_of_ble_eq_true rfl, Nat.le_of_ble_eq_true rfl⟩, rfl, (hts (.instanceMethod yX7_init) (List.mem_of_getElem? (i := 1) rfl))⟩ ⟨gm_Pc_blind gm_N_ok, fun U hU hW => ⟨rfl, by rw [hU], by rw [hU]; exact hP.sub [0] rfl, va_K.moved hW.alike (hK.sub (tys' := []) [] rfl), hDc.weaken (fun _ _ _ _ => trivial), gm_N_ok.1 _ s U U.heap (Or.inr hW) hX⟩⟩ rfl rfl hl.1 rfl (lv_room (Nat.le_of_ble_eq_true rfl)) dX3_init_1 ⟨(show 0 + 0 ≤ 0 by decide +kernel), (show 0 + 0 ≤ 0 by decide +kernel)⟩) hS (fun q _ h => hFc q h) hFc (fun u t H1 locs ht hvm hw hB hz1 hk1 hS => ?_)
  obtain ⟨hP1, hK1, hD1⟩ := hB
  rw [ht] at hP1
  have hK1 := va_K.moved hvm.symm hK1
  obtain ⟨hP, hD⟩ := va_join (wr := []) (w1 := [(q, .inr (ci, []))]) hP hD [0] [] rfl rfl (by decide) (by decide) hk1 hFc hP1 hD1
  generalize H1 = H at hP hS ⊢
  have hP : va_P (dC, dI) vwCl [(q, .inr (ci, []))] H := hP
  have hD : va_D A [(q, .inr (ci, []))] := hD
  refine W.widen (k := 0) (n := 0) (by decide +kernel) (by decide +kernel) ?_
  have hP9 := hP.sub (ws' := [(q, .inr (ci, []))]) [0] rfl
  exact W.vret hx hb hr (fun t ht hW => ⟨⟨(), rfl, trivial, by rw [ht]; exact hP9, va_K.moved hW.alike hK, hD⟩, hS.F ht⟩) hS.2.2 dX3_init_4

abbrev riX8 : Room := { frames := 3, cells := 0, slots := 0, locals := 60 }

set_option maxRecDepth 100000 in
set_option maxHeartbeats 8000000 in
theorem iX8 (l : Launch) (dC : Nat → ClassId) (dI : Nat → Nat → Nat) (q sz : Nat) (ci : Nat) : Met l yX8_init wsX8_init riX8 (gm_Pc (dC, dI) [] gm_N [.ref q] [(q, .inr (ci, []))] sz) (va_Qv (fun _ : Unit => True) (fun _ t => va_P (dC, dI) vwCl [(q, .inr (ci, []))] t.heap ∧ va_K (dC, dI) vwCl [] t ∧ va_D (va_A [(q, .inr (ci, []))] sz) [(q, .inr (ci, []))]) (va_A [(q, .inr (ci, []))] sz)) 0 0 (va_A [(q, .inr (ci, []))] sz) := by
  refine Met.ofW (cc := cX8_init) (maxL := 1) (ret := none) (by decide +kernel) rfl ?_
  intro p e s m args below meth c s₁ B hml hv
  obtain ⟨rfl, hsz, hP, hK, hD0, hX⟩ := hv
  have hx := B.exec
  have hb := B.bytes
  have hr := B.returns
  have hts := atoms_spec (ws := wsX8_init) B.pre
  have hown : s.vm.findClass RX8 = some m.cls := findClass_of_methodNamed B.named
  have hlocks := B.notSynchronized
  have hin : meth.name = "<init>" := (name_of_methodNamed B.named B.method).1
  subst hsz
  have hD := hD0.self (sz := s.heap.size)
  generalize hAe : va_A [(q, .inr (ci, []))] s.heap.size = A at hD hX ⊢
  have hA : ∀ q : Nat, s.heap.size ≤ q → A q := fun q h => by rw [← hAe]; exact Or.inr h
  have hS : va_S A s.heap s.heap [] := va_S.rf
  have hP : va_P (dC, dI) vwCl [(q, .inr (ci, []))] s.heap := hP
  have hl := lv_entry ([.ref q]) (n := 1) (Nat.le_of_ble_eq_true rfl)
  rw [lg_entry_eq]
  generalize (lg_sl ([.ref q]) ++ List.replicate (1 - (lg_sl ([.ref q])).length) Slot.unset).toArray = ls at hl ⊢
  have hl : lv_has ls 1 [(0, .ref q)] := hl
  refine lv_aload_n hx hb dX8_init_0 rfl (lv_at hl 0 rfl) ?_
  have hFc := va_free (wc := [(q, .inr (ci, []))]) hD hS hA [0] rfl
  have hDc := hD.sub (ws' := [(q, .inr (ci, []))]) [0] rfl rfl
  refine va_callv (va_runIN (host := "OnlyRhymes") (As := []) (rest := []) ⟨hx, hb, hml, hown, hts⟩ (iX3 l dC dI q s.heap.size ci) ⟨va_cnB 0 hts gX8_init_X3_init_n1 rfl rfl rfl (hX.1 (.methodLinkNest RX8 1 yX3_init "OnlyRhymes") (by simp [gm_nestw])) (hts (.initialized RX3) (List.mem_of_getElem? (i := 2) rfl)) (by decide +kernel) ⟨Nat.le_of_ble_eq_true rfl, Nat.le_of_ble_eq_true rfl⟩, rfl, (hts (.instanceMethod yX3_init) (List.mem_of_getElem? (i := 1) rfl))⟩ ⟨gm_Pc_blind gm_N_ok, fun U hU hW => ⟨rfl, by rw [hU], by rw [hU]; exact hP.sub [0] rfl, va_K.moved hW.alike (hK.sub (tys' := []) [] rfl), hDc.weaken (fun _ _ _ _ => trivial), gm_N_ok.1 _ s U U.heap (Or.inr hW) hX⟩⟩ rfl rfl hl.1 rfl (lv_room (Nat.le_of_ble_eq_true rfl)) dX8_init_1 ⟨(show 0 + 0 ≤ 0 by decide +kernel), (show 0 + 0 ≤ 0 by decide +kernel)⟩) hS (fun q _ h => hFc q h) hFc (fun u t H1 locs ht hvm hw hB hz1 hk1 hS => ?_)
  obtain ⟨hP1, hK1, hD1⟩ := hB
  rw [ht] at hP1
  have hK1 := va_K.moved hvm.symm hK1
  obtain ⟨hP, hD⟩ := va_join (wr := []) (w1 := [(q, .inr (ci, []))]) hP hD [0] [] rfl rfl (by decide) (by decide) hk1 hFc hP1 hD1
  generalize H1 = H at hP hS ⊢
  have hP : va_P (dC, dI) vwCl [(q, .inr (ci, []))] H := hP
  have hD : va_D A [(q, .inr (ci, []))] := hD
  refine W.widen (k := 0) (n := 0) (by decide +kernel) (by decide +kernel) ?_
  have hP9 := hP.sub (ws' := [(q, .inr (ci, []))]) [0] rfl
  exact W.vret hx hb hr (fun t ht hW => ⟨⟨(), rfl, trivial, by rw [ht]; exact hP9, va_K.moved hW.alike hK, hD⟩, hS.F ht⟩) hS.2.2 dX8_init_4

abbrev riX5 : Room := { frames := 3, cells := 0, slots := 0, locals := 60 }

set_option maxRecDepth 100000 in
set_option maxHeartbeats 8000000 in
theorem iX5 (l : Launch) (dC : Nat → ClassId) (dI : Nat → Nat → Nat) (q sz : Nat) (ci : Nat) : Met l yX5_init wsX5_init riX5 (gm_Pc (dC, dI) [] gm_N [.ref q] [(q, .inr (ci, []))] sz) (va_Qv (fun _ : Unit => True) (fun _ t => va_P (dC, dI) vwCl [(q, .inr (ci, []))] t.heap ∧ va_K (dC, dI) vwCl [] t ∧ va_D (va_A [(q, .inr (ci, []))] sz) [(q, .inr (ci, []))]) (va_A [(q, .inr (ci, []))] sz)) 0 0 (va_A [(q, .inr (ci, []))] sz) := by
  refine Met.ofW (cc := cX5_init) (maxL := 1) (ret := none) (by decide +kernel) rfl ?_
  intro p e s m args below meth c s₁ B hml hv
  obtain ⟨rfl, hsz, hP, hK, hD0, hX⟩ := hv
  have hx := B.exec
  have hb := B.bytes
  have hr := B.returns
  have hts := atoms_spec (ws := wsX5_init) B.pre
  have hown : s.vm.findClass RX5 = some m.cls := findClass_of_methodNamed B.named
  have hlocks := B.notSynchronized
  have hin : meth.name = "<init>" := (name_of_methodNamed B.named B.method).1
  subst hsz
  have hD := hD0.self (sz := s.heap.size)
  generalize hAe : va_A [(q, .inr (ci, []))] s.heap.size = A at hD hX ⊢
  have hA : ∀ q : Nat, s.heap.size ≤ q → A q := fun q h => by rw [← hAe]; exact Or.inr h
  have hS : va_S A s.heap s.heap [] := va_S.rf
  have hP : va_P (dC, dI) vwCl [(q, .inr (ci, []))] s.heap := hP
  have hl := lv_entry ([.ref q]) (n := 1) (Nat.le_of_ble_eq_true rfl)
  rw [lg_entry_eq]
  generalize (lg_sl ([.ref q]) ++ List.replicate (1 - (lg_sl ([.ref q])).length) Slot.unset).toArray = ls at hl ⊢
  have hl : lv_has ls 1 [(0, .ref q)] := hl
  refine lv_aload_n hx hb dX5_init_0 rfl (lv_at hl 0 rfl) ?_
  have hFc := va_free (wc := [(q, .inr (ci, []))]) hD hS hA [0] rfl
  have hDc := hD.sub (ws' := [(q, .inr (ci, []))]) [0] rfl rfl
  refine va_callv (va_runIN (host := "OnlyRhymes") (As := []) (rest := []) ⟨hx, hb, hml, hown, hts⟩ (iX4 l dC dI q s.heap.size ci) ⟨va_cnB 0 hts gX5_init_X4_init_n1 rfl rfl rfl (hX.1 (.methodLinkNest RX5 1 yX4_init "OnlyRhymes") (by simp [gm_nestw])) (hts (.initialized RX4) (List.mem_of_getElem? (i := 2) rfl)) (by decide +kernel) ⟨Nat.le_of_ble_eq_true rfl, Nat.le_of_ble_eq_true rfl⟩, rfl, (hts (.instanceMethod yX4_init) (List.mem_of_getElem? (i := 1) rfl))⟩ ⟨gm_Pc_blind gm_N_ok, fun U hU hW => ⟨rfl, by rw [hU], by rw [hU]; exact hP.sub [0] rfl, va_K.moved hW.alike (hK.sub (tys' := []) [] rfl), hDc.weaken (fun _ _ _ _ => trivial), gm_N_ok.1 _ s U U.heap (Or.inr hW) hX⟩⟩ rfl rfl hl.1 rfl (lv_room (Nat.le_of_ble_eq_true rfl)) dX5_init_1 ⟨(show 0 + 0 ≤ 0 by decide +kernel), (show 0 + 0 ≤ 0 by decide +kernel)⟩) hS (fun q _ h => hFc q h) hFc (fun u t H1 locs ht hvm hw hB hz1 hk1 hS => ?_)
  obtain ⟨hP1, hK1, hD1⟩ := hB
  rw [ht] at hP1
  have hK1 := va_K.moved hvm.symm hK1
  obtain ⟨hP, hD⟩ := va_join (wr := []) (w1 := [(q, .inr (ci, []))]) hP hD [0] [] rfl rfl (by decide) (by decide) hk1 hFc hP1 hD1
  generalize H1 = H at hP hS ⊢
  have hP : va_P (dC, dI) vwCl [(q, .inr (ci, []))] H := hP
  have hD : va_D A [(q, .inr (ci, []))] := hD
  refine W.widen (k := 0) (n := 0) (by decide +kernel) (by decide +kernel) ?_
  have hP9 := hP.sub (ws' := [(q, .inr (ci, []))]) [0] rfl
  exact W.vret hx hb hr (fun t ht hW => ⟨⟨(), rfl, trivial, by rw [ht]; exact hP9, va_K.moved hW.alike hK, hD⟩, hS.F ht⟩) hS.2.2 dX5_init_4

abbrev riX0 : Room := { frames := 3, cells := 0, slots := 0, locals := 60 }

set_option maxRecDepth 100000 in
set_option maxHeartbeats 8000000 in
theorem iX0 (l : Launch) (dC : Nat → ClassId) (dI : Nat → Nat → Nat) (q sz : Nat) (ci : Nat) : Met l yX0_init wsX0_init riX0 (gm_Pc (dC, dI) [] gm_N [.ref q] [(q, .inr (ci, []))] sz) (va_Qv (fun _ : Unit => True) (fun _ t => va_P (dC, dI) vwCl [(q, .inr (ci, []))] t.heap ∧ va_K (dC, dI) vwCl [] t ∧ va_D (va_A [(q, .inr (ci, []))] sz) [(q, .inr (ci, []))]) (va_A [(q, .inr (ci, []))] sz)) 0 0 (va_A [(q, .inr (ci, []))] sz) := by
  refine Met.ofW (cc := cX0_init) (maxL := 1) (ret := none) (by decide +kernel) rfl ?_
  intro p e s m args below meth c s₁ B hml hv
  obtain ⟨rfl, hsz, hP, hK, hD0, hX⟩ := hv
  have hx := B.exec
  have hb := B.bytes
  have hr := B.returns
  have hts := atoms_spec (ws := wsX0_init) B.pre
  have hown : s.vm.findClass RX0 = some m.cls := findClass_of_methodNamed B.named
  have hlocks := B.notSynchronized
  have hin : meth.name = "<init>" := (name_of_methodNamed B.named B.method).1
  subst hsz
  have hD := hD0.self (sz := s.heap.size)
  generalize hAe : va_A [(q, .inr (ci, []))] s.heap.size = A at hD hX ⊢
  have hA : ∀ q : Nat, s.heap.size ≤ q → A q := fun q h => by rw [← hAe]; exact Or.inr h
  have hS : va_S A s.heap s.heap [] := va_S.rf
  have hP : va_P (dC, dI) vwCl [(q, .inr (ci, []))] s.heap := hP
  have hl := lv_entry ([.ref q]) (n := 1) (Nat.le_of_ble_eq_true rfl)
  rw [lg_entry_eq]
  generalize (lg_sl ([.ref q]) ++ List.replicate (1 - (lg_sl ([.ref q])).length) Slot.unset).toArray = ls at hl ⊢
  have hl : lv_has ls 1 [(0, .ref q)] := hl
  refine lv_aload_n hx hb dX0_init_0 rfl (lv_at hl 0 rfl) ?_
  have hFc := va_free (wc := [(q, .inr (ci, []))]) hD hS hA [0] rfl
  have hDc := hD.sub (ws' := [(q, .inr (ci, []))]) [0] rfl rfl
  refine va_callv (va_runIN (host := "OnlyRhymes") (As := []) (rest := []) ⟨hx, hb, hml, hown, hts⟩ (iX4 l dC dI q s.heap.size ci) ⟨va_cnB 0 hts gX0_init_X4_init_n1 rfl rfl rfl (hX.1 (.methodLinkNest RX0 1 yX4_init "OnlyRhymes") (by simp [gm_nestw])) (hts (.initialized RX4) (List.mem_of_getElem? (i := 2) rfl)) (by decide +kernel) ⟨Nat.le_of_ble_eq_true rfl, Nat.le_of_ble_eq_true rfl⟩, rfl, (hts (.instanceMethod yX4_init) (List.mem_of_getElem? (i := 1) rfl))⟩ ⟨gm_Pc_blind gm_N_ok, fun U hU hW => ⟨rfl, by rw [hU], by rw [hU]; exact hP.sub [0] rfl, va_K.moved hW.alike (hK.sub (tys' := []) [] rfl), hDc.weaken (fun _ _ _ _ => trivial), gm_N_ok.1 _ s U U.heap (Or.inr hW) hX⟩⟩ rfl rfl hl.1 rfl (lv_room (Nat.le_of_ble_eq_true rfl)) dX0_init_1 ⟨(show 0 + 0 ≤ 0 by decide +kernel), (show 0 + 0 ≤ 0 by decide +kernel)⟩) hS (fun q _ h => hFc q h) hFc (fun u t H1 locs ht hvm hw hB hz1 hk1 hS => ?_)
  obtain ⟨hP1, hK1, hD1⟩ := hB
  rw [ht] at hP1
  have hK1 := va_K.moved hvm.symm hK1
  obtain ⟨hP, hD⟩ := va_join (wr := []) (w1 := [(q, .inr (ci, []))]) hP hD [0] [] rfl rfl (by decide) (by decide) hk1 hFc hP1 hD1
  generalize H1 = H at hP hS ⊢
  have hP : va_P (dC, dI) vwCl [(q, .inr (ci, []))] H := hP
  have hD : va_D A [(q, .inr (ci, []))] := hD
  refine W.widen (k := 0) (n := 0) (by decide +kernel) (by decide +kernel) ?_
  have hP9 := hP.sub (ws' := [(q, .inr (ci, []))]) [0] rfl
  exact W.vret hx hb hr (fun t ht hW => ⟨⟨(), rfl, trivial, by rw [ht]; exact hP9, va_K.moved hW.alike hK, hD⟩, hS.F ht⟩) hS.2.2 dX0_init_4
