abbrev wTALL (cI : ClassId) (q q_ending q_meaning q_cost q_alikeTo q_kind q_want q_saidAhead q_heardWord q_heardAnswer : Nat) (m_words : Int32) (m_people : Int32) (m_said : Int32) (m_undos : Int32) (m_heard : Int32) (m_ending : Nat → Int32) (m_meaning : Nat → Int32) (m_cost : Nat → Int32) (m_alikeTo : Nat → Int32) (m_kind : Nat → Int32) (m_want : Nat → Int32) (m_saidAhead : Nat → Int32) (m_heardWord : Nat → Int32) (m_heardAnswer : Nat → Int32) : va_W := [(q, .inr (9, [.ref q_ending, .ref q_meaning, .ref q_cost, .int m_words, .ref q_alikeTo, .ref q_kind, .ref q_want, .int m_people, .int m_said, .ref q_saidAhead, .int m_undos, .ref q_heardWord, .ref q_heardAnswer, .int m_heard])), (q_ending, .inl (cI, 10, .inl m_ending)), (q_meaning, .inl (cI, 10, .inl m_meaning)), (q_cost, .inl (cI, 10, .inl m_cost)), (q_alikeTo, .inl (cI, 8, .inl m_alikeTo)), (q_kind, .inl (cI, 5, .inl m_kind)), (q_want, .inl (cI, 5, .inl m_want)), (q_saidAhead, .inl (cI, 8, .inl m_saidAhead)), (q_heardWord, .inl (cI, 6, .inl m_heardWord)), (q_heardAnswer, .inl (cI, 6, .inl m_heardAnswer))]

set_option maxRecDepth 20000 in
theorem inX9_init_X9 : ∀ w ∈ u_ws RX9 TX9 14, w ∈ wsX9_init := fun w h => by
  obtain ⟨k, hk, rfl⟩ := List.mem_map.mp h
  have hk2 := List.mem_range.mp hk
  exact List.mem_of_getElem? (i := 14 + k) (by rcases (show k = 0 ∨ k = 1 ∨ k = 2 ∨ k = 3 ∨ k = 4 ∨ k = 5 ∨ k = 6 ∨ k = 7 ∨ k = 8 ∨ k = 9 ∨ k = 10 ∨ k = 11 ∨ k = 12 ∨ k = 13 by omega) with rfl | rfl | rfl | rfl | rfl | rfl | rfl | rfl | rfl | rfl | rfl | rfl | rfl | rfl <;> rfl)

abbrev riX9 : Room := { frames := 1, cells := 9, slots := 68, locals := 20 }

set_option maxRecDepth 100000 in
set_option maxHeartbeats 8000000 in
theorem iX9 (l : Launch) (dC : Nat → ClassId) (dI : Nat → Nat → Nat) (q sz : Nat) : Met l yX9_init wsX9_init riX9 (gm_Pc (dC, dI) [] gm_N [.ref q] [(q, .inr (9, [.null, .null, .null, .int 0, .null, .null, .null, .int 0, .int 0, .null, .int 0, .null, .null, .int 0]))] sz) (va_Qv (fun _ : Unit => True) (fun _ t => ∃ (cI : ClassId) (q_ending q_meaning q_cost q_alikeTo q_kind q_want q_saidAhead q_heardWord q_heardAnswer : Nat), va_P (dC, dI) vwCl (wTALL cI q q_ending q_meaning q_cost q_alikeTo q_kind q_want q_saidAhead q_heardWord q_heardAnswer 0 0 0 0 0 (fun _ => 0) (fun _ => 0) (fun _ => 0) (fun _ => 0) (fun _ => 0) (fun _ => 0) (fun _ => 0) (fun _ => 0) (fun _ => 0)) t.heap ∧ va_K (dC, dI) vwCl [(cI, .int)] t ∧ va_D (va_A [(q, .inr (9, [.null, .null, .null, .int 0, .null, .null, .null, .int 0, .int 0, .null, .int 0, .null, .null, .int 0]))] sz) (wTALL cI q q_ending q_meaning q_cost q_alikeTo q_kind q_want q_saidAhead q_heardWord q_heardAnswer 0 0 0 0 0 (fun _ => 0) (fun _ => 0) (fun _ => 0) (fun _ => 0) (fun _ => 0) (fun _ => 0) (fun _ => 0) (fun _ => 0) (fun _ => 0))) (va_A [(q, .inr (9, [.null, .null, .null, .int 0, .null, .null, .null, .int 0, .int 0, .null, .int 0, .null, .null, .int 0]))] sz)) 9 68 (va_A [(q, .inr (9, [.null, .null, .null, .int 0, .null, .null, .null, .int 0, .int 0, .null, .int 0, .null, .null, .int 0]))] sz) := by
  refine Met.ofW (cc := cX9_init) (maxL := 1) (ret := none) (by decide +kernel) rfl ?_
  intro p e s m args below meth c s₁ B hml hv
  obtain ⟨rfl, hsz, hP, hK, hD0, hX⟩ := hv
  have hx := B.exec
  have hb := B.bytes
  have hr := B.returns
  have hts := atoms_spec (ws := wsX9_init) B.pre
  have hown : s.vm.findClass RX9 = some m.cls := findClass_of_methodNamed B.named
  have hlocks := B.notSynchronized
  have hin : meth.name = "<init>" := (name_of_methodNamed B.named B.method).1
  subst hsz
  have hD := hD0.self (sz := s.heap.size)
  generalize hAe : va_A [(q, .inr (9, [.null, .null, .null, .int 0, .null, .null, .null, .int 0, .int 0, .null, .int 0, .null, .null, .int 0]))] s.heap.size = A at hD hX ⊢
  have hA : ∀ q : Nat, s.heap.size ≤ q → A q := fun q h => by rw [← hAe]; exact Or.inr h
  have hS : va_S A s.heap s.heap [] := va_S.rf
  have hP : va_P (dC, dI) vwCl [(q, .inr (9, [.null, .null, .null, .int 0, .null, .null, .null, .int 0, .int 0, .null, .int 0, .null, .null, .int 0]))] s.heap := hP
  have hl := lv_entry ([.ref q]) (n := 1) (Nat.le_of_ble_eq_true rfl)
  rw [lg_entry_eq]
  generalize (lg_sl ([.ref q]) ++ List.replicate (1 - (lg_sl ([.ref q])).length) Slot.unset).toArray = ls at hl ⊢
  have hl : lv_has ls 1 [(0, .ref q)] := hl
  refine lv_aload_n hx hb dX9_init_0 rfl (lv_at hl 0 rfl) ?_
  refine W.objInit hx hb hown (hts (.methodLink RX9 3 objectInit) (List.mem_of_getElem? (i := 1) rfl)) (hts (.instanceMethod objectInit) (List.mem_of_getElem? (i := 2) rfl)) (hts (.code objectInit ⟨#[0xb1]⟩ 1 none) (List.mem_of_getElem? (i := 3) rfl)) rfl (by rw [hml]; exact hl.1) rfl dX9_init_1 (Nat.le_of_ble_eq_true rfl) (Nat.le_of_ble_eq_true rfl) ?_
  refine W.eq (g2 := F0 m 4 ls []) rfl ?_
  refine lv_aload_n hx hb dX9_init_4 rfl (lv_at hl 0 rfl) ?_
  refine lv_bipush (v := 10) hx hb dX9_init_5 (by decide) ?_
  refine va_newa (a0 := (10, .inl (fun _ => 0))) (ty := .int) (atype := .int) hx hb (hts (.arrayClass .int) (List.mem_of_getElem? (i := 4) rfl)) rfl hK hP hD hS hA (fun cA => vp_cell_i cA 10 (fun _ => 0)) (by decide +kernel) (by decide +kernel) (by decide +kernel) (show 0 + 1 ≤ 9 by decide +kernel) (show 0 + 10 ≤ 68 by decide +kernel) dX9_init_7 (fun a1 c1 H hK hP hD hS => ?_)
  refine W.widen (k := 1) (n := 10) (by decide +kernel) (by decide +kernel) ?_
  have hK : va_K (dC, dI) vwCl [(c1, .int)] s := hK
  have hP : va_P (dC, dI) vwCl [(q, .inr (9, [.null, .null, .null, .int 0, .null, .null, .null, .int 0, .int 0, .null, .int 0, .null, .null, .int 0])), (a1, .inl (c1, 10, .inl (fun _ => 0)))] H := hP
  have hD : va_D A [(q, .inr (9, [.null, .null, .null, .int 0, .null, .null, .null, .int 0, .int 0, .null, .int 0, .null, .null, .int 0])), (a1, .inl (c1, 10, .inl (fun _ => 0)))] := hD
  refine va_putF (D := (dC, dI)) (ci := 9) (v := .ref a1) (ty := .array .int) (C := RX9) (T := TX9) (N := 14) hx hb hts inX9_init_X9 tyX9 tyX9_ok nmX9 hown hK hP hD hS 0 rfl rfl 0 (by decide) (hts (.fieldLink RX9 9 "OnlyRhymes$Tongue" "ending" "[I") (List.mem_of_getElem? (i := 5) rfl)) (fun _ h9 => h9) rfl hin rfl (by decide +kernel) rfl rfl (Nat.le_of_ble_eq_true rfl) dX9_init_9 (fun H locs hP hD hS => ?_)
  have hP : va_P (dC, dI) vwCl [(q, .inr (9, [.ref a1, .null, .null, .int 0, .null, .null, .null, .int 0, .int 0, .null, .int 0, .null, .null, .int 0])), (a1, .inl (c1, 10, .inl (fun _ => 0)))] H := hP
  have hD : va_D A [(q, .inr (9, [.ref a1, .null, .null, .int 0, .null, .null, .null, .int 0, .int 0, .null, .int 0, .null, .null, .int 0])), (a1, .inl (c1, 10, .inl (fun _ => 0)))] := hD
  refine lv_aload_n hx hb dX9_init_12 rfl (lv_at hl 0 rfl) ?_
  refine lv_bipush (v := 10) hx hb dX9_init_13 (by decide) ?_
  refine va_newa (a0 := (10, .inl (fun _ => 0))) (ty := .int) (atype := .int) hx hb (hts (.arrayClass .int) (List.mem_of_getElem? (i := 4) rfl)) rfl hK hP hD hS hA (fun cA => vp_cell_i cA 10 (fun _ => 0)) (by decide +kernel) (by decide +kernel) (by decide +kernel) (show 1 + 1 ≤ 9 by decide +kernel) (show 10 + 10 ≤ 68 by decide +kernel) dX9_init_15 (fun a2 c2 H hK hP hD hS => ?_)
  refine W.widen (k := 2) (n := 20) (by decide +kernel) (by decide +kernel) ?_
  obtain rfl : c1 = c2 := gm_cE hK 0 1 rfl rfl (by intro _ h; cases h)
  have hK := hK.sub (tys' := [(c1, .int)]) [0] rfl
  have hP : va_P (dC, dI) vwCl [(q, .inr (9, [.ref a1, .null, .null, .int 0, .null, .null, .null, .int 0, .int 0, .null, .int 0, .null, .null, .int 0])), (a1, .inl (c1, 10, .inl (fun _ => 0))), (a2, .inl (c1, 10, .inl (fun _ => 0)))] H := hP
  have hD : va_D A [(q, .inr (9, [.ref a1, .null, .null, .int 0, .null, .null, .null, .int 0, .int 0, .null, .int 0, .null, .null, .int 0])), (a1, .inl (c1, 10, .inl (fun _ => 0))), (a2, .inl (c1, 10, .inl (fun _ => 0)))] := hD
  refine va_putF (D := (dC, dI)) (ci := 9) (v := .ref a2) (ty := .array .int) (C := RX9) (T := TX9) (N := 14) hx hb hts inX9_init_X9 tyX9 tyX9_ok nmX9 hown hK hP hD hS 0 rfl rfl 1 (by decide) (hts (.fieldLink RX9 15 "OnlyRhymes$Tongue" "meaning" "[I") (List.mem_of_getElem? (i := 6) rfl)) (fun _ h9 => h9) rfl hin rfl (by decide +kernel) rfl rfl (Nat.le_of_ble_eq_true rfl) dX9_init_17 (fun H locs hP hD hS => ?_)
  have hP : va_P (dC, dI) vwCl [(q, .inr (9, [.ref a1, .ref a2, .null, .int 0, .null, .null, .null, .int 0, .int 0, .null, .int 0, .null, .null, .int 0])), (a1, .inl (c1, 10, .inl (fun _ => 0))), (a2, .inl (c1, 10, .inl (fun _ => 0)))] H := hP
  have hD : va_D A [(q, .inr (9, [.ref a1, .ref a2, .null, .int 0, .null, .null, .null, .int 0, .int 0, .null, .int 0, .null, .null, .int 0])), (a1, .inl (c1, 10, .inl (fun _ => 0))), (a2, .inl (c1, 10, .inl (fun _ => 0)))] := hD
  refine lv_aload_n hx hb dX9_init_20 rfl (lv_at hl 0 rfl) ?_
  refine lv_bipush (v := 10) hx hb dX9_init_21 (by decide) ?_
  refine va_newa (a0 := (10, .inl (fun _ => 0))) (ty := .int) (atype := .int) hx hb (hts (.arrayClass .int) (List.mem_of_getElem? (i := 4) rfl)) rfl hK hP hD hS hA (fun cA => vp_cell_i cA 10 (fun _ => 0)) (by decide +kernel) (by decide +kernel) (by decide +kernel) (show 2 + 1 ≤ 9 by decide +kernel) (show 20 + 10 ≤ 68 by decide +kernel) dX9_init_23 (fun a3 c3 H hK hP hD hS => ?_)
  refine W.widen (k := 3) (n := 30) (by decide +kernel) (by decide +kernel) ?_
  obtain rfl : c1 = c3 := gm_cE hK 0 1 rfl rfl (by intro _ h; cases h)
  have hK := hK.sub (tys' := [(c1, .int)]) [0] rfl
  have hP : va_P (dC, dI) vwCl [(q, .inr (9, [.ref a1, .ref a2, .null, .int 0, .null, .null, .null, .int 0, .int 0, .null, .int 0, .null, .null, .int 0])), (a1, .inl (c1, 10, .inl (fun _ => 0))), (a2, .inl (c1, 10, .inl (fun _ => 0))), (a3, .inl (c1, 10, .inl (fun _ => 0)))] H := hP
  have hD : va_D A [(q, .inr (9, [.ref a1, .ref a2, .null, .int 0, .null, .null, .null, .int 0, .int 0, .null, .int 0, .null, .null, .int 0])), (a1, .inl (c1, 10, .inl (fun _ => 0))), (a2, .inl (c1, 10, .inl (fun _ => 0))), (a3, .inl (c1, 10, .inl (fun _ => 0)))] := hD
  refine va_putF (D := (dC, dI)) (ci := 9) (v := .ref a3) (ty := .array .int) (C := RX9) (T := TX9) (N := 14) hx hb hts inX9_init_X9 tyX9 tyX9_ok nmX9 hown hK hP hD hS 0 rfl rfl 2 (by decide) (hts (.fieldLink RX9 18 "OnlyRhymes$Tongue" "cost" "[I") (List.mem_of_getElem? (i := 7) rfl)) (fun _ h9 => h9) rfl hin rfl (by decide +kernel) rfl rfl (Nat.le_of_ble_eq_true rfl) dX9_init_25 (fun H locs hP hD hS => ?_)
  have hP : va_P (dC, dI) vwCl [(q, .inr (9, [.ref a1, .ref a2, .ref a3, .int 0, .null, .null, .null, .int 0, .int 0, .null, .int 0, .null, .null, .int 0])), (a1, .inl (c1, 10, .inl (fun _ => 0))), (a2, .inl (c1, 10, .inl (fun _ => 0))), (a3, .inl (c1, 10, .inl (fun _ => 0)))] H := hP
  have hD : va_D A [(q, .inr (9, [.ref a1, .ref a2, .ref a3, .int 0, .null, .null, .null, .int 0, .int 0, .null, .int 0, .null, .null, .int 0])), (a1, .inl (c1, 10, .inl (fun _ => 0))), (a2, .inl (c1, 10, .inl (fun _ => 0))), (a3, .inl (c1, 10, .inl (fun _ => 0)))] := hD
  refine lv_aload_n hx hb dX9_init_28 rfl (lv_at hl 0 rfl) ?_
  refine lv_bipush (v := 8) hx hb dX9_init_29 (by decide) ?_
  refine va_newa (a0 := (8, .inl (fun _ => 0))) (ty := .int) (atype := .int) hx hb (hts (.arrayClass .int) (List.mem_of_getElem? (i := 4) rfl)) rfl hK hP hD hS hA (fun cA => vp_cell_i cA 8 (fun _ => 0)) (by decide +kernel) (by decide +kernel) (by decide +kernel) (show 3 + 1 ≤ 9 by decide +kernel) (show 30 + 8 ≤ 68 by decide +kernel) dX9_init_31 (fun a4 c4 H hK hP hD hS => ?_)
  refine W.widen (k := 4) (n := 38) (by decide +kernel) (by decide +kernel) ?_
  obtain rfl : c1 = c4 := gm_cE hK 0 1 rfl rfl (by intro _ h; cases h)
  have hK := hK.sub (tys' := [(c1, .int)]) [0] rfl
  have hP : va_P (dC, dI) vwCl [(q, .inr (9, [.ref a1, .ref a2, .ref a3, .int 0, .null, .null, .null, .int 0, .int 0, .null, .int 0, .null, .null, .int 0])), (a1, .inl (c1, 10, .inl (fun _ => 0))), (a2, .inl (c1, 10, .inl (fun _ => 0))), (a3, .inl (c1, 10, .inl (fun _ => 0))), (a4, .inl (c1, 8, .inl (fun _ => 0)))] H := hP
  have hD : va_D A [(q, .inr (9, [.ref a1, .ref a2, .ref a3, .int 0, .null, .null, .null, .int 0, .int 0, .null, .int 0, .null, .null, .int 0])), (a1, .inl (c1, 10, .inl (fun _ => 0))), (a2, .inl (c1, 10, .inl (fun _ => 0))), (a3, .inl (c1, 10, .inl (fun _ => 0))), (a4, .inl (c1, 8, .inl (fun _ => 0)))] := hD
  refine va_putF (D := (dC, dI)) (ci := 9) (v := .ref a4) (ty := .array .int) (C := RX9) (T := TX9) (N := 14) hx hb hts inX9_init_X9 tyX9 tyX9_ok nmX9 hown hK hP hD hS 0 rfl rfl 4 (by decide) (hts (.fieldLink RX9 21 "OnlyRhymes$Tongue" "alikeTo" "[I") (List.mem_of_getElem? (i := 8) rfl)) (fun _ h9 => h9) rfl hin rfl (by decide +kernel) rfl rfl (Nat.le_of_ble_eq_true rfl) dX9_init_33 (fun H locs hP hD hS => ?_)
  have hP : va_P (dC, dI) vwCl [(q, .inr (9, [.ref a1, .ref a2, .ref a3, .int 0, .ref a4, .null, .null, .int 0, .int 0, .null, .int 0, .null, .null, .int 0])), (a1, .inl (c1, 10, .inl (fun _ => 0))), (a2, .inl (c1, 10, .inl (fun _ => 0))), (a3, .inl (c1, 10, .inl (fun _ => 0))), (a4, .inl (c1, 8, .inl (fun _ => 0)))] H := hP
  have hD : va_D A [(q, .inr (9, [.ref a1, .ref a2, .ref a3, .int 0, .ref a4, .null, .null, .int 0, .int 0, .null, .int 0, .null, .null, .int 0])), (a1, .inl (c1, 10, .inl (fun _ => 0))), (a2, .inl (c1, 10, .inl (fun _ => 0))), (a3, .inl (c1, 10, .inl (fun _ => 0))), (a4, .inl (c1, 8, .inl (fun _ => 0)))] := hD
  refine lv_aload_n hx hb dX9_init_36 rfl (lv_at hl 0 rfl) ?_
  refine lv_iconst (v := 5) hx hb dX9_init_37 (by decide) ?_
  refine va_newa (a0 := (5, .inl (fun _ => 0))) (ty := .int) (atype := .int) hx hb (hts (.arrayClass .int) (List.mem_of_getElem? (i := 4) rfl)) rfl hK hP hD hS hA (fun cA => vp_cell_i cA 5 (fun _ => 0)) (by decide +kernel) (by decide +kernel) (by decide +kernel) (show 4 + 1 ≤ 9 by decide +kernel) (show 38 + 5 ≤ 68 by decide +kernel) dX9_init_38 (fun a5 c5 H hK hP hD hS => ?_)
  refine W.widen (k := 5) (n := 43) (by decide +kernel) (by decide +kernel) ?_
  obtain rfl : c1 = c5 := gm_cE hK 0 1 rfl rfl (by intro _ h; cases h)
  have hK := hK.sub (tys' := [(c1, .int)]) [0] rfl
  have hP : va_P (dC, dI) vwCl [(q, .inr (9, [.ref a1, .ref a2, .ref a3, .int 0, .ref a4, .null, .null, .int 0, .int 0, .null, .int 0, .null, .null, .int 0])), (a1, .inl (c1, 10, .inl (fun _ => 0))), (a2, .inl (c1, 10, .inl (fun _ => 0))), (a3, .inl (c1, 10, .inl (fun _ => 0))), (a4, .inl (c1, 8, .inl (fun _ => 0))), (a5, .inl (c1, 5, .inl (fun _ => 0)))] H := hP
  have hD : va_D A [(q, .inr (9, [.ref a1, .ref a2, .ref a3, .int 0, .ref a4, .null, .null, .int 0, .int 0, .null, .int 0, .null, .null, .int 0])), (a1, .inl (c1, 10, .inl (fun _ => 0))), (a2, .inl (c1, 10, .inl (fun _ => 0))), (a3, .inl (c1, 10, .inl (fun _ => 0))), (a4, .inl (c1, 8, .inl (fun _ => 0))), (a5, .inl (c1, 5, .inl (fun _ => 0)))] := hD
  refine va_putF (D := (dC, dI)) (ci := 9) (v := .ref a5) (ty := .array .int) (C := RX9) (T := TX9) (N := 14) hx hb hts inX9_init_X9 tyX9 tyX9_ok nmX9 hown hK hP hD hS 0 rfl rfl 5 (by decide) (hts (.fieldLink RX9 24 "OnlyRhymes$Tongue" "kind" "[I") (List.mem_of_getElem? (i := 9) rfl)) (fun _ h9 => h9) rfl hin rfl (by decide +kernel) rfl rfl (Nat.le_of_ble_eq_true rfl) dX9_init_40 (fun H locs hP hD hS => ?_)
  have hP : va_P (dC, dI) vwCl [(q, .inr (9, [.ref a1, .ref a2, .ref a3, .int 0, .ref a4, .ref a5, .null, .int 0, .int 0, .null, .int 0, .null, .null, .int 0])), (a1, .inl (c1, 10, .inl (fun _ => 0))), (a2, .inl (c1, 10, .inl (fun _ => 0))), (a3, .inl (c1, 10, .inl (fun _ => 0))), (a4, .inl (c1, 8, .inl (fun _ => 0))), (a5, .inl (c1, 5, .inl (fun _ => 0)))] H := hP
  have hD : va_D A [(q, .inr (9, [.ref a1, .ref a2, .ref a3, .int 0, .ref a4, .ref a5, .null, .int 0, .int 0, .null, .int 0, .null, .null, .int 0])), (a1, .inl (c1, 10, .inl (fun _ => 0))), (a2, .inl (c1, 10, .inl (fun _ => 0))), (a3, .inl (c1, 10, .inl (fun _ => 0))), (a4, .inl (c1, 8, .inl (fun _ => 0))), (a5, .inl (c1, 5, .inl (fun _ => 0)))] := hD
  refine lv_aload_n hx hb dX9_init_43 rfl (lv_at hl 0 rfl) ?_
  refine lv_iconst (v := 5) hx hb dX9_init_44 (by decide) ?_
  refine va_newa (a0 := (5, .inl (fun _ => 0))) (ty := .int) (atype := .int) hx hb (hts (.arrayClass .int) (List.mem_of_getElem? (i := 4) rfl)) rfl hK hP hD hS hA (fun cA => vp_cell_i cA 5 (fun _ => 0)) (by decide +kernel) (by decide +kernel) (by decide +kernel) (show 5 + 1 ≤ 9 by decide +kernel) (show 43 + 5 ≤ 68 by decide +kernel) dX9_init_45 (fun a6 c6 H hK hP hD hS => ?_)
  refine W.widen (k := 6) (n := 48) (by decide +kernel) (by decide +kernel) ?_
  obtain rfl : c1 = c6 := gm_cE hK 0 1 rfl rfl (by intro _ h; cases h)
  have hK := hK.sub (tys' := [(c1, .int)]) [0] rfl
  have hP : va_P (dC, dI) vwCl [(q, .inr (9, [.ref a1, .ref a2, .ref a3, .int 0, .ref a4, .ref a5, .null, .int 0, .int 0, .null, .int 0, .null, .null, .int 0])), (a1, .inl (c1, 10, .inl (fun _ => 0))), (a2, .inl (c1, 10, .inl (fun _ => 0))), (a3, .inl (c1, 10, .inl (fun _ => 0))), (a4, .inl (c1, 8, .inl (fun _ => 0))), (a5, .inl (c1, 5, .inl (fun _ => 0))), (a6, .inl (c1, 5, .inl (fun _ => 0)))] H := hP
  have hD : va_D A [(q, .inr (9, [.ref a1, .ref a2, .ref a3, .int 0, .ref a4, .ref a5, .null, .int 0, .int 0, .null, .int 0, .null, .null, .int 0])), (a1, .inl (c1, 10, .inl (fun _ => 0))), (a2, .inl (c1, 10, .inl (fun _ => 0))), (a3, .inl (c1, 10, .inl (fun _ => 0))), (a4, .inl (c1, 8, .inl (fun _ => 0))), (a5, .inl (c1, 5, .inl (fun _ => 0))), (a6, .inl (c1, 5, .inl (fun _ => 0)))] := hD
  refine va_putF (D := (dC, dI)) (ci := 9) (v := .ref a6) (ty := .array .int) (C := RX9) (T := TX9) (N := 14) hx hb hts inX9_init_X9 tyX9 tyX9_ok nmX9 hown hK hP hD hS 0 rfl rfl 6 (by decide) (hts (.fieldLink RX9 27 "OnlyRhymes$Tongue" "want" "[I") (List.mem_of_getElem? (i := 10) rfl)) (fun _ h9 => h9) rfl hin rfl (by decide +kernel) rfl rfl (Nat.le_of_ble_eq_true rfl) dX9_init_47 (fun H locs hP hD hS => ?_)
  have hP : va_P (dC, dI) vwCl [(q, .inr (9, [.ref a1, .ref a2, .ref a3, .int 0, .ref a4, .ref a5, .ref a6, .int 0, .int 0, .null, .int 0, .null, .null, .int 0])), (a1, .inl (c1, 10, .inl (fun _ => 0))), (a2, .inl (c1, 10, .inl (fun _ => 0))), (a3, .inl (c1, 10, .inl (fun _ => 0))), (a4, .inl (c1, 8, .inl (fun _ => 0))), (a5, .inl (c1, 5, .inl (fun _ => 0))), (a6, .inl (c1, 5, .inl (fun _ => 0)))] H := hP
  have hD : va_D A [(q, .inr (9, [.ref a1, .ref a2, .ref a3, .int 0, .ref a4, .ref a5, .ref a6, .int 0, .int 0, .null, .int 0, .null, .null, .int 0])), (a1, .inl (c1, 10, .inl (fun _ => 0))), (a2, .inl (c1, 10, .inl (fun _ => 0))), (a3, .inl (c1, 10, .inl (fun _ => 0))), (a4, .inl (c1, 8, .inl (fun _ => 0))), (a5, .inl (c1, 5, .inl (fun _ => 0))), (a6, .inl (c1, 5, .inl (fun _ => 0)))] := hD
  refine lv_aload_n hx hb dX9_init_50 rfl (lv_at hl 0 rfl) ?_
  refine lv_bipush (v := 8) hx hb dX9_init_51 (by decide) ?_
  refine va_newa (a0 := (8, .inl (fun _ => 0))) (ty := .int) (atype := .int) hx hb (hts (.arrayClass .int) (List.mem_of_getElem? (i := 4) rfl)) rfl hK hP hD hS hA (fun cA => vp_cell_i cA 8 (fun _ => 0)) (by decide +kernel) (by decide +kernel) (by decide +kernel) (show 6 + 1 ≤ 9 by decide +kernel) (show 48 + 8 ≤ 68 by decide +kernel) dX9_init_53 (fun a7 c7 H hK hP hD hS => ?_)
  refine W.widen (k := 7) (n := 56) (by decide +kernel) (by decide +kernel) ?_
  obtain rfl : c1 = c7 := gm_cE hK 0 1 rfl rfl (by intro _ h; cases h)
  have hK := hK.sub (tys' := [(c1, .int)]) [0] rfl
  have hP : va_P (dC, dI) vwCl [(q, .inr (9, [.ref a1, .ref a2, .ref a3, .int 0, .ref a4, .ref a5, .ref a6, .int 0, .int 0, .null, .int 0, .null, .null, .int 0])), (a1, .inl (c1, 10, .inl (fun _ => 0))), (a2, .inl (c1, 10, .inl (fun _ => 0))), (a3, .inl (c1, 10, .inl (fun _ => 0))), (a4, .inl (c1, 8, .inl (fun _ => 0))), (a5, .inl (c1, 5, .inl (fun _ => 0))), (a6, .inl (c1, 5, .inl (fun _ => 0))), (a7, .inl (c1, 8, .inl (fun _ => 0)))] H := hP
  have hD : va_D A [(q, .inr (9, [.ref a1, .ref a2, .ref a3, .int 0, .ref a4, .ref a5, .ref a6, .int 0, .int 0, .null, .int 0, .null, .null, .int 0])), (a1, .inl (c1, 10, .inl (fun _ => 0))), (a2, .inl (c1, 10, .inl (fun _ => 0))), (a3, .inl (c1, 10, .inl (fun _ => 0))), (a4, .inl (c1, 8, .inl (fun _ => 0))), (a5, .inl (c1, 5, .inl (fun _ => 0))), (a6, .inl (c1, 5, .inl (fun _ => 0))), (a7, .inl (c1, 8, .inl (fun _ => 0)))] := hD
  refine va_putF (D := (dC, dI)) (ci := 9) (v := .ref a7) (ty := .array .int) (C := RX9) (T := TX9) (N := 14) hx hb hts inX9_init_X9 tyX9 tyX9_ok nmX9 hown hK hP hD hS 0 rfl rfl 9 (by decide) (hts (.fieldLink RX9 30 "OnlyRhymes$Tongue" "saidAhead" "[I") (List.mem_of_getElem? (i := 11) rfl)) (fun _ h9 => h9) rfl hin rfl (by decide +kernel) rfl rfl (Nat.le_of_ble_eq_true rfl) dX9_init_55 (fun H locs hP hD hS => ?_)
  have hP : va_P (dC, dI) vwCl [(q, .inr (9, [.ref a1, .ref a2, .ref a3, .int 0, .ref a4, .ref a5, .ref a6, .int 0, .int 0, .ref a7, .int 0, .null, .null, .int 0])), (a1, .inl (c1, 10, .inl (fun _ => 0))), (a2, .inl (c1, 10, .inl (fun _ => 0))), (a3, .inl (c1, 10, .inl (fun _ => 0))), (a4, .inl (c1, 8, .inl (fun _ => 0))), (a5, .inl (c1, 5, .inl (fun _ => 0))), (a6, .inl (c1, 5, .inl (fun _ => 0))), (a7, .inl (c1, 8, .inl (fun _ => 0)))] H := hP
  have hD : va_D A [(q, .inr (9, [.ref a1, .ref a2, .ref a3, .int 0, .ref a4, .ref a5, .ref a6, .int 0, .int 0, .ref a7, .int 0, .null, .null, .int 0])), (a1, .inl (c1, 10, .inl (fun _ => 0))), (a2, .inl (c1, 10, .inl (fun _ => 0))), (a3, .inl (c1, 10, .inl (fun _ => 0))), (a4, .inl (c1, 8, .inl (fun _ => 0))), (a5, .inl (c1, 5, .inl (fun _ => 0))), (a6, .inl (c1, 5, .inl (fun _ => 0))), (a7, .inl (c1, 8, .inl (fun _ => 0)))] := hD
  refine lv_aload_n hx hb dX9_init_58 rfl (lv_at hl 0 rfl) ?_
  refine lv_bipush (v := 6) hx hb dX9_init_59 (by decide) ?_
  refine va_newa (a0 := (6, .inl (fun _ => 0))) (ty := .int) (atype := .int) hx hb (hts (.arrayClass .int) (List.mem_of_getElem? (i := 4) rfl)) rfl hK hP hD hS hA (fun cA => vp_cell_i cA 6 (fun _ => 0)) (by decide +kernel) (by decide +kernel) (by decide +kernel) (show 7 + 1 ≤ 9 by decide +kernel) (show 56 + 6 ≤ 68 by decide +kernel) dX9_init_61 (fun a8 c8 H hK hP hD hS => ?_)
  refine W.widen (k := 8) (n := 62) (by decide +kernel) (by decide +kernel) ?_
  obtain rfl : c1 = c8 := gm_cE hK 0 1 rfl rfl (by intro _ h; cases h)
  have hK := hK.sub (tys' := [(c1, .int)]) [0] rfl
  have hP : va_P (dC, dI) vwCl [(q, .inr (9, [.ref a1, .ref a2, .ref a3, .int 0, .ref a4, .ref a5, .ref a6, .int 0, .int 0, .ref a7, .int 0, .null, .null, .int 0])), (a1, .inl (c1, 10, .inl (fun _ => 0))), (a2, .inl (c1, 10, .inl (fun _ => 0))), (a3, .inl (c1, 10, .inl (fun _ => 0))), (a4, .inl (c1, 8, .inl (fun _ => 0))), (a5, .inl (c1, 5, .inl (fun _ => 0))), (a6, .inl (c1, 5, .inl (fun _ => 0))), (a7, .inl (c1, 8, .inl (fun _ => 0))), (a8, .inl (c1, 6, .inl (fun _ => 0)))] H := hP
  have hD : va_D A [(q, .inr (9, [.ref a1, .ref a2, .ref a3, .int 0, .ref a4, .ref a5, .ref a6, .int 0, .int 0, .ref a7, .int 0, .null, .null, .int 0])), (a1, .inl (c1, 10, .inl (fun _ => 0))), (a2, .inl (c1, 10, .inl (fun _ => 0))), (a3, .inl (c1, 10, .inl (fun _ => 0))), (a4, .inl (c1, 8, .inl (fun _ => 0))), (a5, .inl (c1, 5, .inl (fun _ => 0))), (a6, .inl (c1, 5, .inl (fun _ => 0))), (a7, .inl (c1, 8, .inl (fun _ => 0))), (a8, .inl (c1, 6, .inl (fun _ => 0)))] := hD
  refine va_putF (D := (dC, dI)) (ci := 9) (v := .ref a8) (ty := .array .int) (C := RX9) (T := TX9) (N := 14) hx hb hts inX9_init_X9 tyX9 tyX9_ok nmX9 hown hK hP hD hS 0 rfl rfl 11 (by decide) (hts (.fieldLink RX9 33 "OnlyRhymes$Tongue" "heardWord" "[I") (List.mem_of_getElem? (i := 12) rfl)) (fun _ h9 => h9) rfl hin rfl (by decide +kernel) rfl rfl (Nat.le_of_ble_eq_true rfl) dX9_init_63 (fun H locs hP hD hS => ?_)
  have hP : va_P (dC, dI) vwCl [(q, .inr (9, [.ref a1, .ref a2, .ref a3, .int 0, .ref a4, .ref a5, .ref a6, .int 0, .int 0, .ref a7, .int 0, .ref a8, .null, .int 0])), (a1, .inl (c1, 10, .inl (fun _ => 0))), (a2, .inl (c1, 10, .inl (fun _ => 0))), (a3, .inl (c1, 10, .inl (fun _ => 0))), (a4, .inl (c1, 8, .inl (fun _ => 0))), (a5, .inl (c1, 5, .inl (fun _ => 0))), (a6, .inl (c1, 5, .inl (fun _ => 0))), (a7, .inl (c1, 8, .inl (fun _ => 0))), (a8, .inl (c1, 6, .inl (fun _ => 0)))] H := hP
  have hD : va_D A [(q, .inr (9, [.ref a1, .ref a2, .ref a3, .int 0, .ref a4, .ref a5, .ref a6, .int 0, .int 0, .ref a7, .int 0, .ref a8, .null, .int 0])), (a1, .inl (c1, 10, .inl (fun _ => 0))), (a2, .inl (c1, 10, .inl (fun _ => 0))), (a3, .inl (c1, 10, .inl (fun _ => 0))), (a4, .inl (c1, 8, .inl (fun _ => 0))), (a5, .inl (c1, 5, .inl (fun _ => 0))), (a6, .inl (c1, 5, .inl (fun _ => 0))), (a7, .inl (c1, 8, .inl (fun _ => 0))), (a8, .inl (c1, 6, .inl (fun _ => 0)))] := hD
  refine lv_aload_n hx hb dX9_init_66 rfl (lv_at hl 0 rfl) ?_
  refine lv_bipush (v := 6) hx hb dX9_init_67 (by decide) ?_
  refine va_newa (a0 := (6, .inl (fun _ => 0))) (ty := .int) (atype := .int) hx hb (hts (.arrayClass .int) (List.mem_of_getElem? (i := 4) rfl)) rfl hK hP hD hS hA (fun cA => vp_cell_i cA 6 (fun _ => 0)) (by decide +kernel) (by decide +kernel) (by decide +kernel) (show 8 + 1 ≤ 9 by decide +kernel) (show 62 + 6 ≤ 68 by decide +kernel) dX9_init_69 (fun a9 c9 H hK hP hD hS => ?_)
  refine W.widen (k := 9) (n := 68) (by decide +kernel) (by decide +kernel) ?_
  obtain rfl : c1 = c9 := gm_cE hK 0 1 rfl rfl (by intro _ h; cases h)
  have hK := hK.sub (tys' := [(c1, .int)]) [0] rfl
  have hP : va_P (dC, dI) vwCl [(q, .inr (9, [.ref a1, .ref a2, .ref a3, .int 0, .ref a4, .ref a5, .ref a6, .int 0, .int 0, .ref a7, .int 0, .ref a8, .null, .int 0])), (a1, .inl (c1, 10, .inl (fun _ => 0))), (a2, .inl (c1, 10, .inl (fun _ => 0))), (a3, .inl (c1, 10, .inl (fun _ => 0))), (a4, .inl (c1, 8, .inl (fun _ => 0))), (a5, .inl (c1, 5, .inl (fun _ => 0))), (a6, .inl (c1, 5, .inl (fun _ => 0))), (a7, .inl (c1, 8, .inl (fun _ => 0))), (a8, .inl (c1, 6, .inl (fun _ => 0))), (a9, .inl (c1, 6, .inl (fun _ => 0)))] H := hP
  have hD : va_D A [(q, .inr (9, [.ref a1, .ref a2, .ref a3, .int 0, .ref a4, .ref a5, .ref a6, .int 0, .int 0, .ref a7, .int 0, .ref a8, .null, .int 0])), (a1, .inl (c1, 10, .inl (fun _ => 0))), (a2, .inl (c1, 10, .inl (fun _ => 0))), (a3, .inl (c1, 10, .inl (fun _ => 0))), (a4, .inl (c1, 8, .inl (fun _ => 0))), (a5, .inl (c1, 5, .inl (fun _ => 0))), (a6, .inl (c1, 5, .inl (fun _ => 0))), (a7, .inl (c1, 8, .inl (fun _ => 0))), (a8, .inl (c1, 6, .inl (fun _ => 0))), (a9, .inl (c1, 6, .inl (fun _ => 0)))] := hD
  refine va_putF (D := (dC, dI)) (ci := 9) (v := .ref a9) (ty := .array .int) (C := RX9) (T := TX9) (N := 14) hx hb hts inX9_init_X9 tyX9 tyX9_ok nmX9 hown hK hP hD hS 0 rfl rfl 12 (by decide) (hts (.fieldLink RX9 36 "OnlyRhymes$Tongue" "heardAnswer" "[I") (List.mem_of_getElem? (i := 13) rfl)) (fun _ h9 => h9) rfl hin rfl (by decide +kernel) rfl rfl (Nat.le_of_ble_eq_true rfl) dX9_init_71 (fun H locs hP hD hS => ?_)
  have hP : va_P (dC, dI) vwCl [(q, .inr (9, [.ref a1, .ref a2, .ref a3, .int 0, .ref a4, .ref a5, .ref a6, .int 0, .int 0, .ref a7, .int 0, .ref a8, .ref a9, .int 0])), (a1, .inl (c1, 10, .inl (fun _ => 0))), (a2, .inl (c1, 10, .inl (fun _ => 0))), (a3, .inl (c1, 10, .inl (fun _ => 0))), (a4, .inl (c1, 8, .inl (fun _ => 0))), (a5, .inl (c1, 5, .inl (fun _ => 0))), (a6, .inl (c1, 5, .inl (fun _ => 0))), (a7, .inl (c1, 8, .inl (fun _ => 0))), (a8, .inl (c1, 6, .inl (fun _ => 0))), (a9, .inl (c1, 6, .inl (fun _ => 0)))] H := hP
  have hD : va_D A [(q, .inr (9, [.ref a1, .ref a2, .ref a3, .int 0, .ref a4, .ref a5, .ref a6, .int 0, .int 0, .ref a7, .int 0, .ref a8, .ref a9, .int 0])), (a1, .inl (c1, 10, .inl (fun _ => 0))), (a2, .inl (c1, 10, .inl (fun _ => 0))), (a3, .inl (c1, 10, .inl (fun _ => 0))), (a4, .inl (c1, 8, .inl (fun _ => 0))), (a5, .inl (c1, 5, .inl (fun _ => 0))), (a6, .inl (c1, 5, .inl (fun _ => 0))), (a7, .inl (c1, 8, .inl (fun _ => 0))), (a8, .inl (c1, 6, .inl (fun _ => 0))), (a9, .inl (c1, 6, .inl (fun _ => 0)))] := hD
  have hP9 := hP.sub (ws' := (wTALL c1 q a1 a2 a3 a4 a5 a6 a7 a8 a9 0 0 0 0 0 (fun _ => 0) (fun _ => 0) (fun _ => 0) (fun _ => 0) (fun _ => 0) (fun _ => 0) (fun _ => 0) (fun _ => 0) (fun _ => 0))) [0, 1, 2, 3, 4, 5, 6, 7, 8, 9] rfl
  have hD9 := hD.sub (ws' := (wTALL c1 q a1 a2 a3 a4 a5 a6 a7 a8 a9 0 0 0 0 0 (fun _ => 0) (fun _ => 0) (fun _ => 0) (fun _ => 0) (fun _ => 0) (fun _ => 0) (fun _ => 0) (fun _ => 0) (fun _ => 0))) [0, 1, 2, 3, 4, 5, 6, 7, 8, 9] (by decide) rfl
  have hK9 := hK.sub (tys' := [(c1, .int)]) [0] rfl
  exact W.vret hx hb hr (fun t ht hW => ⟨⟨(), rfl, trivial, c1, a1, a2, a3, a4, a5, a6, a7, a8, a9, by rw [ht]; exact hP9, va_K.moved hW.alike hK9, hD9⟩, hS.F ht⟩) hS.2.2 dX9_init_74

abbrev wRALL (cI : ClassId) (q q_bytes : Nat) (m_length : Int32) (m_items : Int32) (m_place : Int32) (m_start : Int32) (m_token : Int32) (m_number : Int32) (m_bytes : Nat → Int32) : va_W := [(q, .inr (6, [.ref q_bytes, .int m_length, .int m_items, .int m_place, .int m_start, .int m_token, .int m_number])), (q_bytes, .inl (cI, 150, .inl m_bytes))]

set_option maxRecDepth 20000 in
theorem inX6_init_X6 : ∀ w ∈ u_ws RX6 TX6 7, w ∈ wsX6_init := fun w h => by
  obtain ⟨k, hk, rfl⟩ := List.mem_map.mp h
  have hk2 := List.mem_range.mp hk
  exact List.mem_of_getElem? (i := 6 + k) (by rcases (show k = 0 ∨ k = 1 ∨ k = 2 ∨ k = 3 ∨ k = 4 ∨ k = 5 ∨ k = 6 by omega) with rfl | rfl | rfl | rfl | rfl | rfl | rfl <;> rfl)

abbrev riX6 : Room := { frames := 1, cells := 1, slots := 150, locals := 20 }

set_option maxRecDepth 100000 in
set_option maxHeartbeats 8000000 in
theorem iX6 (l : Launch) (dC : Nat → ClassId) (dI : Nat → Nat → Nat) (q sz : Nat) : Met l yX6_init wsX6_init riX6 (gm_Pc (dC, dI) [] gm_N [.ref q] [(q, .inr (6, [.null, .int 0, .int 0, .int 0, .int 0, .int 0, .int 0]))] sz) (va_Qv (fun _ : Unit => True) (fun _ t => ∃ (cI : ClassId) (q_bytes : Nat), va_P (dC, dI) vwCl (wRALL cI q q_bytes 0 0 0 0 0 0 (fun _ => 0)) t.heap ∧ va_K (dC, dI) vwCl [(cI, .int)] t ∧ va_D (va_A [(q, .inr (6, [.null, .int 0, .int 0, .int 0, .int 0, .int 0, .int 0]))] sz) (wRALL cI q q_bytes 0 0 0 0 0 0 (fun _ => 0))) (va_A [(q, .inr (6, [.null, .int 0, .int 0, .int 0, .int 0, .int 0, .int 0]))] sz)) 1 150 (va_A [(q, .inr (6, [.null, .int 0, .int 0, .int 0, .int 0, .int 0, .int 0]))] sz) := by
  refine Met.ofW (cc := cX6_init) (maxL := 1) (ret := none) (by decide +kernel) rfl ?_
  intro p e s m args below meth c s₁ B hml hv
  obtain ⟨rfl, hsz, hP, hK, hD0, hX⟩ := hv
  have hx := B.exec
  have hb := B.bytes
  have hr := B.returns
  have hts := atoms_spec (ws := wsX6_init) B.pre
  have hown : s.vm.findClass RX6 = some m.cls := findClass_of_methodNamed B.named
  have hlocks := B.notSynchronized
  have hin : meth.name = "<init>" := (name_of_methodNamed B.named B.method).1
  subst hsz
  have hD := hD0.self (sz := s.heap.size)
  generalize hAe : va_A [(q, .inr (6, [.null, .int 0, .int 0, .int 0, .int 0, .int 0, .int 0]))] s.heap.size = A at hD hX ⊢
  have hA : ∀ q : Nat, s.heap.size ≤ q → A q := fun q h => by rw [← hAe]; exact Or.inr h
  have hS : va_S A s.heap s.heap [] := va_S.rf
  have hP : va_P (dC, dI) vwCl [(q, .inr (6, [.null, .int 0, .int 0, .int 0, .int 0, .int 0, .int 0]))] s.heap := hP
  have hl := lv_entry ([.ref q]) (n := 1) (Nat.le_of_ble_eq_true rfl)
  rw [lg_entry_eq]
  generalize (lg_sl ([.ref q]) ++ List.replicate (1 - (lg_sl ([.ref q])).length) Slot.unset).toArray = ls at hl ⊢
  have hl : lv_has ls 1 [(0, .ref q)] := hl
  refine lv_aload_n hx hb dX6_init_0 rfl (lv_at hl 0 rfl) ?_
  refine W.objInit hx hb hown (hts (.methodLink RX6 3 objectInit) (List.mem_of_getElem? (i := 1) rfl)) (hts (.instanceMethod objectInit) (List.mem_of_getElem? (i := 2) rfl)) (hts (.code objectInit ⟨#[0xb1]⟩ 1 none) (List.mem_of_getElem? (i := 3) rfl)) rfl (by rw [hml]; exact hl.1) rfl dX6_init_1 (Nat.le_of_ble_eq_true rfl) (Nat.le_of_ble_eq_true rfl) ?_
  refine W.eq (g2 := F0 m 4 ls []) rfl ?_
  refine lv_aload_n hx hb dX6_init_4 rfl (lv_at hl 0 rfl) ?_
  refine lv_sipush (v := 150) hx hb dX6_init_5 (by decide) ?_
  refine va_newa (a0 := (150, .inl (fun _ => 0))) (ty := .int) (atype := .int) hx hb (hts (.arrayClass .int) (List.mem_of_getElem? (i := 4) rfl)) rfl hK hP hD hS hA (fun cA => vp_cell_i cA 150 (fun _ => 0)) (by decide +kernel) (by decide +kernel) (by decide +kernel) (show 0 + 1 ≤ 1 by decide +kernel) (show 0 + 150 ≤ 150 by decide +kernel) dX6_init_8 (fun a1 c1 H hK hP hD hS => ?_)
  refine W.widen (k := 1) (n := 150) (by decide +kernel) (by decide +kernel) ?_
  have hK : va_K (dC, dI) vwCl [(c1, .int)] s := hK
  have hP : va_P (dC, dI) vwCl [(q, .inr (6, [.null, .int 0, .int 0, .int 0, .int 0, .int 0, .int 0])), (a1, .inl (c1, 150, .inl (fun _ => 0)))] H := hP
  have hD : va_D A [(q, .inr (6, [.null, .int 0, .int 0, .int 0, .int 0, .int 0, .int 0])), (a1, .inl (c1, 150, .inl (fun _ => 0)))] := hD
  refine va_putF (D := (dC, dI)) (ci := 6) (v := .ref a1) (ty := .array .int) (C := RX6) (T := TX6) (N := 7) hx hb hts inX6_init_X6 tyX6 tyX6_ok nmX6 hown hK hP hD hS 0 rfl rfl 0 (by decide) (hts (.fieldLink RX6 9 "OnlyRhymes$Reader" "bytes" "[I") (List.mem_of_getElem? (i := 5) rfl)) (fun _ h9 => h9) rfl hin rfl (by decide +kernel) rfl rfl (Nat.le_of_ble_eq_true rfl) dX6_init_10 (fun H locs hP hD hS => ?_)
  have hP : va_P (dC, dI) vwCl [(q, .inr (6, [.ref a1, .int 0, .int 0, .int 0, .int 0, .int 0, .int 0])), (a1, .inl (c1, 150, .inl (fun _ => 0)))] H := hP
  have hD : va_D A [(q, .inr (6, [.ref a1, .int 0, .int 0, .int 0, .int 0, .int 0, .int 0])), (a1, .inl (c1, 150, .inl (fun _ => 0)))] := hD
  have hP9 := hP.sub (ws' := (wRALL c1 q a1 0 0 0 0 0 0 (fun _ => 0))) [0, 1] rfl
  have hD9 := hD.sub (ws' := (wRALL c1 q a1 0 0 0 0 0 0 (fun _ => 0))) [0, 1] (by decide) rfl
  have hK9 := hK.sub (tys' := [(c1, .int)]) [0] rfl
  exact W.vret hx hb hr (fun t ht hW => ⟨⟨(), rfl, trivial, c1, a1, by rw [ht]; exact hP9, va_K.moved hW.alike hK9, hD9⟩, hS.F ht⟩) hS.2.2 dX6_init_13

abbrev wDALL (cI : ClassId) (q q_chimesOfFirst q_chimesOfSecond q_lasts : Nat) (m_words : Int32) (m_saidAtFirst : Int32) (m_asked : Int32) (m_longest : Int32) (m_shortest : Int32) (m_chimesOfFirst : Nat → Int32) (m_chimesOfSecond : Nat → Int32) (m_lasts : Nat → Int32) : va_W := [(q, .inr (2, [.ref q_chimesOfFirst, .ref q_chimesOfSecond, .ref q_lasts, .int m_words, .int m_saidAtFirst, .int m_asked, .int m_longest, .int m_shortest])), (q_chimesOfFirst, .inl (cI, 10, .inl m_chimesOfFirst)), (q_chimesOfSecond, .inl (cI, 10, .inl m_chimesOfSecond)), (q_lasts, .inl (cI, 1024, .inl m_lasts))]

set_option maxRecDepth 20000 in
theorem inX2_init_X2 : ∀ w ∈ u_ws RX2 TX2 8, w ∈ wsX2_init := fun w h => by
  obtain ⟨k, hk, rfl⟩ := List.mem_map.mp h
  have hk2 := List.mem_range.mp hk
  exact List.mem_of_getElem? (i := 8 + k) (by rcases (show k = 0 ∨ k = 1 ∨ k = 2 ∨ k = 3 ∨ k = 4 ∨ k = 5 ∨ k = 6 ∨ k = 7 by omega) with rfl | rfl | rfl | rfl | rfl | rfl | rfl | rfl <;> rfl)

abbrev riX2 : Room := { frames := 1, cells := 3, slots := 1044, locals := 20 }

set_option maxRecDepth 100000 in
set_option maxHeartbeats 8000000 in
theorem iX2 (l : Launch) (dC : Nat → ClassId) (dI : Nat → Nat → Nat) (q sz : Nat) : Met l yX2_init wsX2_init riX2 (gm_Pc (dC, dI) [] gm_N [.ref q] [(q, .inr (2, [.null, .null, .null, .int 0, .int 0, .int 0, .int 0, .int 0]))] sz) (va_Qv (fun _ : Unit => True) (fun _ t => ∃ (cI : ClassId) (q_chimesOfFirst q_chimesOfSecond q_lasts : Nat), va_P (dC, dI) vwCl (wDALL cI q q_chimesOfFirst q_chimesOfSecond q_lasts 0 0 0 0 0 (fun _ => 0) (fun _ => 0) (fun _ => 0)) t.heap ∧ va_K (dC, dI) vwCl [(cI, .int)] t ∧ va_D (va_A [(q, .inr (2, [.null, .null, .null, .int 0, .int 0, .int 0, .int 0, .int 0]))] sz) (wDALL cI q q_chimesOfFirst q_chimesOfSecond q_lasts 0 0 0 0 0 (fun _ => 0) (fun _ => 0) (fun _ => 0))) (va_A [(q, .inr (2, [.null, .null, .null, .int 0, .int 0, .int 0, .int 0, .int 0]))] sz)) 3 1044 (va_A [(q, .inr (2, [.null, .null, .null, .int 0, .int 0, .int 0, .int 0, .int 0]))] sz) := by
  refine Met.ofW (cc := cX2_init) (maxL := 1) (ret := none) (by decide +kernel) rfl ?_
  intro p e s m args below meth c s₁ B hml hv
  obtain ⟨rfl, hsz, hP, hK, hD0, hX⟩ := hv
  have hx := B.exec
  have hb := B.bytes
  have hr := B.returns
  have hts := atoms_spec (ws := wsX2_init) B.pre
  have hown : s.vm.findClass RX2 = some m.cls := findClass_of_methodNamed B.named
  have hlocks := B.notSynchronized
  have hin : meth.name = "<init>" := (name_of_methodNamed B.named B.method).1
  subst hsz
  have hD := hD0.self (sz := s.heap.size)
  generalize hAe : va_A [(q, .inr (2, [.null, .null, .null, .int 0, .int 0, .int 0, .int 0, .int 0]))] s.heap.size = A at hD hX ⊢
  have hA : ∀ q : Nat, s.heap.size ≤ q → A q := fun q h => by rw [← hAe]; exact Or.inr h
  have hS : va_S A s.heap s.heap [] := va_S.rf
  have hP : va_P (dC, dI) vwCl [(q, .inr (2, [.null, .null, .null, .int 0, .int 0, .int 0, .int 0, .int 0]))] s.heap := hP
  have hl := lv_entry ([.ref q]) (n := 1) (Nat.le_of_ble_eq_true rfl)
  rw [lg_entry_eq]
  generalize (lg_sl ([.ref q]) ++ List.replicate (1 - (lg_sl ([.ref q])).length) Slot.unset).toArray = ls at hl ⊢
  have hl : lv_has ls 1 [(0, .ref q)] := hl
  refine lv_aload_n hx hb dX2_init_0 rfl (lv_at hl 0 rfl) ?_
  refine W.objInit hx hb hown (hts (.methodLink RX2 3 objectInit) (List.mem_of_getElem? (i := 1) rfl)) (hts (.instanceMethod objectInit) (List.mem_of_getElem? (i := 2) rfl)) (hts (.code objectInit ⟨#[0xb1]⟩ 1 none) (List.mem_of_getElem? (i := 3) rfl)) rfl (by rw [hml]; exact hl.1) rfl dX2_init_1 (Nat.le_of_ble_eq_true rfl) (Nat.le_of_ble_eq_true rfl) ?_
  refine W.eq (g2 := F0 m 4 ls []) rfl ?_
  refine lv_aload_n hx hb dX2_init_4 rfl (lv_at hl 0 rfl) ?_
  refine lv_bipush (v := 10) hx hb dX2_init_5 (by decide) ?_
  refine va_newa (a0 := (10, .inl (fun _ => 0))) (ty := .int) (atype := .int) hx hb (hts (.arrayClass .int) (List.mem_of_getElem? (i := 4) rfl)) rfl hK hP hD hS hA (fun cA => vp_cell_i cA 10 (fun _ => 0)) (by decide +kernel) (by decide +kernel) (by decide +kernel) (show 0 + 1 ≤ 3 by decide +kernel) (show 0 + 10 ≤ 1044 by decide +kernel) dX2_init_7 (fun a1 c1 H hK hP hD hS => ?_)
  refine W.widen (k := 1) (n := 10) (by decide +kernel) (by decide +kernel) ?_
  have hK : va_K (dC, dI) vwCl [(c1, .int)] s := hK
  have hP : va_P (dC, dI) vwCl [(q, .inr (2, [.null, .null, .null, .int 0, .int 0, .int 0, .int 0, .int 0])), (a1, .inl (c1, 10, .inl (fun _ => 0)))] H := hP
  have hD : va_D A [(q, .inr (2, [.null, .null, .null, .int 0, .int 0, .int 0, .int 0, .int 0])), (a1, .inl (c1, 10, .inl (fun _ => 0)))] := hD
  refine va_putF (D := (dC, dI)) (ci := 2) (v := .ref a1) (ty := .array .int) (C := RX2) (T := TX2) (N := 8) hx hb hts inX2_init_X2 tyX2 tyX2_ok nmX2 hown hK hP hD hS 0 rfl rfl 0 (by decide) (hts (.fieldLink RX2 9 "OnlyRhymes$Duel" "chimesOfFirst" "[I") (List.mem_of_getElem? (i := 5) rfl)) (fun _ h9 => h9) rfl hin rfl (by decide +kernel) rfl rfl (Nat.le_of_ble_eq_true rfl) dX2_init_9 (fun H locs hP hD hS => ?_)
  have hP : va_P (dC, dI) vwCl [(q, .inr (2, [.ref a1, .null, .null, .int 0, .int 0, .int 0, .int 0, .int 0])), (a1, .inl (c1, 10, .inl (fun _ => 0)))] H := hP
  have hD : va_D A [(q, .inr (2, [.ref a1, .null, .null, .int 0, .int 0, .int 0, .int 0, .int 0])), (a1, .inl (c1, 10, .inl (fun _ => 0)))] := hD
  refine lv_aload_n hx hb dX2_init_12 rfl (lv_at hl 0 rfl) ?_
  refine lv_bipush (v := 10) hx hb dX2_init_13 (by decide) ?_
  refine va_newa (a0 := (10, .inl (fun _ => 0))) (ty := .int) (atype := .int) hx hb (hts (.arrayClass .int) (List.mem_of_getElem? (i := 4) rfl)) rfl hK hP hD hS hA (fun cA => vp_cell_i cA 10 (fun _ => 0)) (by decide +kernel) (by decide +kernel) (by decide +kernel) (show 1 + 1 ≤ 3 by decide +kernel) (show 10 + 10 ≤ 1044 by decide +kernel) dX2_init_15 (fun a2 c2 H hK hP hD hS => ?_)
  refine W.widen (k := 2) (n := 20) (by decide +kernel) (by decide +kernel) ?_
  obtain rfl : c1 = c2 := gm_cE hK 0 1 rfl rfl (by intro _ h; cases h)
  have hK := hK.sub (tys' := [(c1, .int)]) [0] rfl
  have hP : va_P (dC, dI) vwCl [(q, .inr (2, [.ref a1, .null, .null, .int 0, .int 0, .int 0, .int 0, .int 0])), (a1, .inl (c1, 10, .inl (fun _ => 0))), (a2, .inl (c1, 10, .inl (fun _ => 0)))] H := hP
  have hD : va_D A [(q, .inr (2, [.ref a1, .null, .null, .int 0, .int 0, .int 0, .int 0, .int 0])), (a1, .inl (c1, 10, .inl (fun _ => 0))), (a2, .inl (c1, 10, .inl (fun _ => 0)))] := hD
  refine va_putF (D := (dC, dI)) (ci := 2) (v := .ref a2) (ty := .array .int) (C := RX2) (T := TX2) (N := 8) hx hb hts inX2_init_X2 tyX2 tyX2_ok nmX2 hown hK hP hD hS 0 rfl rfl 1 (by decide) (hts (.fieldLink RX2 15 "OnlyRhymes$Duel" "chimesOfSecond" "[I") (List.mem_of_getElem? (i := 6) rfl)) (fun _ h9 => h9) rfl hin rfl (by decide +kernel) rfl rfl (Nat.le_of_ble_eq_true rfl) dX2_init_17 (fun H locs hP hD hS => ?_)
  have hP : va_P (dC, dI) vwCl [(q, .inr (2, [.ref a1, .ref a2, .null, .int 0, .int 0, .int 0, .int 0, .int 0])), (a1, .inl (c1, 10, .inl (fun _ => 0))), (a2, .inl (c1, 10, .inl (fun _ => 0)))] H := hP
  have hD : va_D A [(q, .inr (2, [.ref a1, .ref a2, .null, .int 0, .int 0, .int 0, .int 0, .int 0])), (a1, .inl (c1, 10, .inl (fun _ => 0))), (a2, .inl (c1, 10, .inl (fun _ => 0)))] := hD
  refine lv_aload_n hx hb dX2_init_20 rfl (lv_at hl 0 rfl) ?_
  refine lv_sipush (v := 1024) hx hb dX2_init_21 (by decide) ?_
  refine va_newa (a0 := (1024, .inl (fun _ => 0))) (ty := .int) (atype := .int) hx hb (hts (.arrayClass .int) (List.mem_of_getElem? (i := 4) rfl)) rfl hK hP hD hS hA (fun cA => vp_cell_i cA 1024 (fun _ => 0)) (by decide +kernel) (by decide +kernel) (by decide +kernel) (show 2 + 1 ≤ 3 by decide +kernel) (show 20 + 1024 ≤ 1044 by decide +kernel) dX2_init_24 (fun a3 c3 H hK hP hD hS => ?_)
  refine W.widen (k := 3) (n := 1044) (by decide +kernel) (by decide +kernel) ?_
  obtain rfl : c1 = c3 := gm_cE hK 0 1 rfl rfl (by intro _ h; cases h)
  have hK := hK.sub (tys' := [(c1, .int)]) [0] rfl
  have hP : va_P (dC, dI) vwCl [(q, .inr (2, [.ref a1, .ref a2, .null, .int 0, .int 0, .int 0, .int 0, .int 0])), (a1, .inl (c1, 10, .inl (fun _ => 0))), (a2, .inl (c1, 10, .inl (fun _ => 0))), (a3, .inl (c1, 1024, .inl (fun _ => 0)))] H := hP
  have hD : va_D A [(q, .inr (2, [.ref a1, .ref a2, .null, .int 0, .int 0, .int 0, .int 0, .int 0])), (a1, .inl (c1, 10, .inl (fun _ => 0))), (a2, .inl (c1, 10, .inl (fun _ => 0))), (a3, .inl (c1, 1024, .inl (fun _ => 0)))] := hD
  refine va_putF (D := (dC, dI)) (ci := 2) (v := .ref a3) (ty := .array .int) (C := RX2) (T := TX2) (N := 8) hx hb hts inX2_init_X2 tyX2 tyX2_ok nmX2 hown hK hP hD hS 0 rfl rfl 2 (by decide) (hts (.fieldLink RX2 18 "OnlyRhymes$Duel" "lasts" "[I") (List.mem_of_getElem? (i := 7) rfl)) (fun _ h9 => h9) rfl hin rfl (by decide +kernel) rfl rfl (Nat.le_of_ble_eq_true rfl) dX2_init_26 (fun H locs hP hD hS => ?_)
  have hP : va_P (dC, dI) vwCl [(q, .inr (2, [.ref a1, .ref a2, .ref a3, .int 0, .int 0, .int 0, .int 0, .int 0])), (a1, .inl (c1, 10, .inl (fun _ => 0))), (a2, .inl (c1, 10, .inl (fun _ => 0))), (a3, .inl (c1, 1024, .inl (fun _ => 0)))] H := hP
  have hD : va_D A [(q, .inr (2, [.ref a1, .ref a2, .ref a3, .int 0, .int 0, .int 0, .int 0, .int 0])), (a1, .inl (c1, 10, .inl (fun _ => 0))), (a2, .inl (c1, 10, .inl (fun _ => 0))), (a3, .inl (c1, 1024, .inl (fun _ => 0)))] := hD
  have hP9 := hP.sub (ws' := (wDALL c1 q a1 a2 a3 0 0 0 0 0 (fun _ => 0) (fun _ => 0) (fun _ => 0))) [0, 1, 2, 3] rfl
  have hD9 := hD.sub (ws' := (wDALL c1 q a1 a2 a3 0 0 0 0 0 (fun _ => 0) (fun _ => 0) (fun _ => 0))) [0, 1, 2, 3] (by decide) rfl
  have hK9 := hK.sub (tys' := [(c1, .int)]) [0] rfl
  exact W.vret hx hb hr (fun t ht hW => ⟨⟨(), rfl, trivial, c1, a1, a2, a3, by rw [ht]; exact hP9, va_K.moved hW.alike hK9, hD9⟩, hS.F ht⟩) hS.2.2 dX2_init_29

abbrev wCALL (cI : ClassId) (q q_sayable q_price q_covered q_spent : Nat) (m_sayable : Nat → Int32) (m_price : Nat → Int32) (m_covered : Nat → Int32) (m_spent : Nat → Int32) : va_W := [(q, .inr (1, [.ref q_sayable, .ref q_price, .ref q_covered, .ref q_spent])), (q_sayable, .inl (cI, 10, .inl m_sayable)), (q_price, .inl (cI, 10, .inl m_price)), (q_covered, .inl (cI, 1024, .inl m_covered)), (q_spent, .inl (cI, 1024, .inl m_spent))]

set_option maxRecDepth 20000 in
theorem inX1_init_X1 : ∀ w ∈ u_ws RX1 TX1 4, w ∈ wsX1_init := fun w h => by
  obtain ⟨k, hk, rfl⟩ := List.mem_map.mp h
  have hk2 := List.mem_range.mp hk
  exact List.mem_of_getElem? (i := 9 + k) (by rcases (show k = 0 ∨ k = 1 ∨ k = 2 ∨ k = 3 by omega) with rfl | rfl | rfl | rfl <;> rfl)

abbrev riX1 : Room := { frames := 1, cells := 4, slots := 2068, locals := 20 }

set_option maxRecDepth 100000 in
set_option maxHeartbeats 8000000 in
theorem iX1 (l : Launch) (dC : Nat → ClassId) (dI : Nat → Nat → Nat) (q sz : Nat) : Met l yX1_init wsX1_init riX1 (gm_Pc (dC, dI) [] gm_N [.ref q] [(q, .inr (1, [.null, .null, .null, .null]))] sz) (va_Qv (fun _ : Unit => True) (fun _ t => ∃ (cI : ClassId) (q_sayable q_price q_covered q_spent : Nat), va_P (dC, dI) vwCl (wCALL cI q q_sayable q_price q_covered q_spent (fun _ => 0) (fun _ => 0) (fun _ => 0) (fun _ => 0)) t.heap ∧ va_K (dC, dI) vwCl [(cI, .int)] t ∧ va_D (va_A [(q, .inr (1, [.null, .null, .null, .null]))] sz) (wCALL cI q q_sayable q_price q_covered q_spent (fun _ => 0) (fun _ => 0) (fun _ => 0) (fun _ => 0))) (va_A [(q, .inr (1, [.null, .null, .null, .null]))] sz)) 4 2068 (va_A [(q, .inr (1, [.null, .null, .null, .null]))] sz) := by
  refine Met.ofW (cc := cX1_init) (maxL := 1) (ret := none) (by decide +kernel) rfl ?_
  intro p e s m args below meth c s₁ B hml hv
  obtain ⟨rfl, hsz, hP, hK, hD0, hX⟩ := hv
  have hx := B.exec
  have hb := B.bytes
  have hr := B.returns
  have hts := atoms_spec (ws := wsX1_init) B.pre
  have hown : s.vm.findClass RX1 = some m.cls := findClass_of_methodNamed B.named
  have hlocks := B.notSynchronized
  have hin : meth.name = "<init>" := (name_of_methodNamed B.named B.method).1
  subst hsz
  have hD := hD0.self (sz := s.heap.size)
  generalize hAe : va_A [(q, .inr (1, [.null, .null, .null, .null]))] s.heap.size = A at hD hX ⊢
  have hA : ∀ q : Nat, s.heap.size ≤ q → A q := fun q h => by rw [← hAe]; exact Or.inr h
  have hS : va_S A s.heap s.heap [] := va_S.rf
  have hP : va_P (dC, dI) vwCl [(q, .inr (1, [.null, .null, .null, .null]))] s.heap := hP
  have hl := lv_entry ([.ref q]) (n := 1) (Nat.le_of_ble_eq_true rfl)
  rw [lg_entry_eq]
  generalize (lg_sl ([.ref q]) ++ List.replicate (1 - (lg_sl ([.ref q])).length) Slot.unset).toArray = ls at hl ⊢
  have hl : lv_has ls 1 [(0, .ref q)] := hl
  refine lv_aload_n hx hb dX1_init_0 rfl (lv_at hl 0 rfl) ?_
  refine W.objInit hx hb hown (hts (.methodLink RX1 3 objectInit) (List.mem_of_getElem? (i := 1) rfl)) (hts (.instanceMethod objectInit) (List.mem_of_getElem? (i := 2) rfl)) (hts (.code objectInit ⟨#[0xb1]⟩ 1 none) (List.mem_of_getElem? (i := 3) rfl)) rfl (by rw [hml]; exact hl.1) rfl dX1_init_1 (Nat.le_of_ble_eq_true rfl) (Nat.le_of_ble_eq_true rfl) ?_
  refine W.eq (g2 := F0 m 4 ls []) rfl ?_
  refine lv_aload_n hx hb dX1_init_4 rfl (lv_at hl 0 rfl) ?_
  refine lv_bipush (v := 10) hx hb dX1_init_5 (by decide) ?_
  refine va_newa (a0 := (10, .inl (fun _ => 0))) (ty := .int) (atype := .int) hx hb (hts (.arrayClass .int) (List.mem_of_getElem? (i := 4) rfl)) rfl hK hP hD hS hA (fun cA => vp_cell_i cA 10 (fun _ => 0)) (by decide +kernel) (by decide +kernel) (by decide +kernel) (show 0 + 1 ≤ 4 by decide +kernel) (show 0 + 10 ≤ 2068 by decide +kernel) dX1_init_7 (fun a1 c1 H hK hP hD hS => ?_)
  refine W.widen (k := 1) (n := 10) (by decide +kernel) (by decide +kernel) ?_
  have hK : va_K (dC, dI) vwCl [(c1, .int)] s := hK
  have hP : va_P (dC, dI) vwCl [(q, .inr (1, [.null, .null, .null, .null])), (a1, .inl (c1, 10, .inl (fun _ => 0)))] H := hP
  have hD : va_D A [(q, .inr (1, [.null, .null, .null, .null])), (a1, .inl (c1, 10, .inl (fun _ => 0)))] := hD
  refine va_putF (D := (dC, dI)) (ci := 1) (v := .ref a1) (ty := .array .int) (C := RX1) (T := TX1) (N := 4) hx hb hts inX1_init_X1 tyX1 tyX1_ok nmX1 hown hK hP hD hS 0 rfl rfl 0 (by decide) (hts (.fieldLink RX1 9 "OnlyRhymes$Cover" "sayable" "[I") (List.mem_of_getElem? (i := 5) rfl)) (fun _ h9 => h9) rfl hin rfl (by decide +kernel) rfl rfl (Nat.le_of_ble_eq_true rfl) dX1_init_9 (fun H locs hP hD hS => ?_)
  have hP : va_P (dC, dI) vwCl [(q, .inr (1, [.ref a1, .null, .null, .null])), (a1, .inl (c1, 10, .inl (fun _ => 0)))] H := hP
  have hD : va_D A [(q, .inr (1, [.ref a1, .null, .null, .null])), (a1, .inl (c1, 10, .inl (fun _ => 0)))] := hD
  refine lv_aload_n hx hb dX1_init_12 rfl (lv_at hl 0 rfl) ?_
  refine lv_bipush (v := 10) hx hb dX1_init_13 (by decide) ?_
  refine va_newa (a0 := (10, .inl (fun _ => 0))) (ty := .int) (atype := .int) hx hb (hts (.arrayClass .int) (List.mem_of_getElem? (i := 4) rfl)) rfl hK hP hD hS hA (fun cA => vp_cell_i cA 10 (fun _ => 0)) (by decide +kernel) (by decide +kernel) (by decide +kernel) (show 1 + 1 ≤ 4 by decide +kernel) (show 10 + 10 ≤ 2068 by decide +kernel) dX1_init_15 (fun a2 c2 H hK hP hD hS => ?_)
  refine W.widen (k := 2) (n := 20) (by decide +kernel) (by decide +kernel) ?_
  obtain rfl : c1 = c2 := gm_cE hK 0 1 rfl rfl (by intro _ h; cases h)
  have hK := hK.sub (tys' := [(c1, .int)]) [0] rfl
  have hP : va_P (dC, dI) vwCl [(q, .inr (1, [.ref a1, .null, .null, .null])), (a1, .inl (c1, 10, .inl (fun _ => 0))), (a2, .inl (c1, 10, .inl (fun _ => 0)))] H := hP
  have hD : va_D A [(q, .inr (1, [.ref a1, .null, .null, .null])), (a1, .inl (c1, 10, .inl (fun _ => 0))), (a2, .inl (c1, 10, .inl (fun _ => 0)))] := hD
  refine va_putF (D := (dC, dI)) (ci := 1) (v := .ref a2) (ty := .array .int) (C := RX1) (T := TX1) (N := 4) hx hb hts inX1_init_X1 tyX1 tyX1_ok nmX1 hown hK hP hD hS 0 rfl rfl 1 (by decide) (hts (.fieldLink RX1 15 "OnlyRhymes$Cover" "price" "[I") (List.mem_of_getElem? (i := 6) rfl)) (fun _ h9 => h9) rfl hin rfl (by decide +kernel) rfl rfl (Nat.le_of_ble_eq_true rfl) dX1_init_17 (fun H locs hP hD hS => ?_)
  have hP : va_P (dC, dI) vwCl [(q, .inr (1, [.ref a1, .ref a2, .null, .null])), (a1, .inl (c1, 10, .inl (fun _ => 0))), (a2, .inl (c1, 10, .inl (fun _ => 0)))] H := hP
  have hD : va_D A [(q, .inr (1, [.ref a1, .ref a2, .null, .null])), (a1, .inl (c1, 10, .inl (fun _ => 0))), (a2, .inl (c1, 10, .inl (fun _ => 0)))] := hD
  refine lv_aload_n hx hb dX1_init_20 rfl (lv_at hl 0 rfl) ?_
  refine lv_sipush (v := 1024) hx hb dX1_init_21 (by decide) ?_
  refine va_newa (a0 := (1024, .inl (fun _ => 0))) (ty := .int) (atype := .int) hx hb (hts (.arrayClass .int) (List.mem_of_getElem? (i := 4) rfl)) rfl hK hP hD hS hA (fun cA => vp_cell_i cA 1024 (fun _ => 0)) (by decide +kernel) (by decide +kernel) (by decide +kernel) (show 2 + 1 ≤ 4 by decide +kernel) (show 20 + 1024 ≤ 2068 by decide +kernel) dX1_init_24 (fun a3 c3 H hK hP hD hS => ?_)
  refine W.widen (k := 3) (n := 1044) (by decide +kernel) (by decide +kernel) ?_
  obtain rfl : c1 = c3 := gm_cE hK 0 1 rfl rfl (by intro _ h; cases h)
  have hK := hK.sub (tys' := [(c1, .int)]) [0] rfl
  have hP : va_P (dC, dI) vwCl [(q, .inr (1, [.ref a1, .ref a2, .null, .null])), (a1, .inl (c1, 10, .inl (fun _ => 0))), (a2, .inl (c1, 10, .inl (fun _ => 0))), (a3, .inl (c1, 1024, .inl (fun _ => 0)))] H := hP
  have hD : va_D A [(q, .inr (1, [.ref a1, .ref a2, .null, .null])), (a1, .inl (c1, 10, .inl (fun _ => 0))), (a2, .inl (c1, 10, .inl (fun _ => 0))), (a3, .inl (c1, 1024, .inl (fun _ => 0)))] := hD
  refine va_putF (D := (dC, dI)) (ci := 1) (v := .ref a3) (ty := .array .int) (C := RX1) (T := TX1) (N := 4) hx hb hts inX1_init_X1 tyX1 tyX1_ok nmX1 hown hK hP hD hS 0 rfl rfl 2 (by decide) (hts (.fieldLink RX1 18 "OnlyRhymes$Cover" "covered" "[I") (List.mem_of_getElem? (i := 7) rfl)) (fun _ h9 => h9) rfl hin rfl (by decide +kernel) rfl rfl (Nat.le_of_ble_eq_true rfl) dX1_init_26 (fun H locs hP hD hS => ?_)
  have hP : va_P (dC, dI) vwCl [(q, .inr (1, [.ref a1, .ref a2, .ref a3, .null])), (a1, .inl (c1, 10, .inl (fun _ => 0))), (a2, .inl (c1, 10, .inl (fun _ => 0))), (a3, .inl (c1, 1024, .inl (fun _ => 0)))] H := hP
  have hD : va_D A [(q, .inr (1, [.ref a1, .ref a2, .ref a3, .null])), (a1, .inl (c1, 10, .inl (fun _ => 0))), (a2, .inl (c1, 10, .inl (fun _ => 0))), (a3, .inl (c1, 1024, .inl (fun _ => 0)))] := hD
  refine lv_aload_n hx hb dX1_init_29 rfl (lv_at hl 0 rfl) ?_
  refine lv_sipush (v := 1024) hx hb dX1_init_30 (by decide) ?_
  refine va_newa (a0 := (1024, .inl (fun _ => 0))) (ty := .int) (atype := .int) hx hb (hts (.arrayClass .int) (List.mem_of_getElem? (i := 4) rfl)) rfl hK hP hD hS hA (fun cA => vp_cell_i cA 1024 (fun _ => 0)) (by decide +kernel) (by decide +kernel) (by decide +kernel) (show 3 + 1 ≤ 4 by decide +kernel) (show 1044 + 1024 ≤ 2068 by decide +kernel) dX1_init_33 (fun a4 c4 H hK hP hD hS => ?_)
  refine W.widen (k := 4) (n := 2068) (by decide +kernel) (by decide +kernel) ?_
  obtain rfl : c1 = c4 := gm_cE hK 0 1 rfl rfl (by intro _ h; cases h)
  have hK := hK.sub (tys' := [(c1, .int)]) [0] rfl
  have hP : va_P (dC, dI) vwCl [(q, .inr (1, [.ref a1, .ref a2, .ref a3, .null])), (a1, .inl (c1, 10, .inl (fun _ => 0))), (a2, .inl (c1, 10, .inl (fun _ => 0))), (a3, .inl (c1, 1024, .inl (fun _ => 0))), (a4, .inl (c1, 1024, .inl (fun _ => 0)))] H := hP
  have hD : va_D A [(q, .inr (1, [.ref a1, .ref a2, .ref a3, .null])), (a1, .inl (c1, 10, .inl (fun _ => 0))), (a2, .inl (c1, 10, .inl (fun _ => 0))), (a3, .inl (c1, 1024, .inl (fun _ => 0))), (a4, .inl (c1, 1024, .inl (fun _ => 0)))] := hD
  refine va_putF (D := (dC, dI)) (ci := 1) (v := .ref a4) (ty := .array .int) (C := RX1) (T := TX1) (N := 4) hx hb hts inX1_init_X1 tyX1 tyX1_ok nmX1 hown hK hP hD hS 0 rfl rfl 3 (by decide) (hts (.fieldLink RX1 21 "OnlyRhymes$Cover" "spent" "[I") (List.mem_of_getElem? (i := 8) rfl)) (fun _ h9 => h9) rfl hin rfl (by decide +kernel) rfl rfl (Nat.le_of_ble_eq_true rfl) dX1_init_35 (fun H locs hP hD hS => ?_)
  have hP : va_P (dC, dI) vwCl [(q, .inr (1, [.ref a1, .ref a2, .ref a3, .ref a4])), (a1, .inl (c1, 10, .inl (fun _ => 0))), (a2, .inl (c1, 10, .inl (fun _ => 0))), (a3, .inl (c1, 1024, .inl (fun _ => 0))), (a4, .inl (c1, 1024, .inl (fun _ => 0)))] H := hP
  have hD : va_D A [(q, .inr (1, [.ref a1, .ref a2, .ref a3, .ref a4])), (a1, .inl (c1, 10, .inl (fun _ => 0))), (a2, .inl (c1, 10, .inl (fun _ => 0))), (a3, .inl (c1, 1024, .inl (fun _ => 0))), (a4, .inl (c1, 1024, .inl (fun _ => 0)))] := hD
  have hP9 := hP.sub (ws' := (wCALL c1 q a1 a2 a3 a4 (fun _ => 0) (fun _ => 0) (fun _ => 0) (fun _ => 0))) [0, 1, 2, 3, 4] rfl
  have hD9 := hD.sub (ws' := (wCALL c1 q a1 a2 a3 a4 (fun _ => 0) (fun _ => 0) (fun _ => 0) (fun _ => 0))) [0, 1, 2, 3, 4] (by decide) rfl
  have hK9 := hK.sub (tys' := [(c1, .int)]) [0] rfl
  exact W.vret hx hb hr (fun t ht hW => ⟨⟨(), rfl, trivial, c1, a1, a2, a3, a4, by rw [ht]; exact hP9, va_K.moved hW.alike hK9, hD9⟩, hS.F ht⟩) hS.2.2 dX1_init_38

abbrev wMALL (cI cZ : ClassId) (q q_refused q_tongue q_fresh q_kept q_isKept q_text q_said q_talk : Nat) (m_thrown : Int32) (m_size : Int32) (m_at : Int32) (m_start : Int32) (m_token : Int32) (m_value : Int64) (m_faultAt : Int32) (m_allowed : Int32) (m_firstPair : Int32) (m_secondPair : Int32) (m_above : Int64) (m_below : Int64) (m_refused : Nat → Int32) (m_tongue : Nat → Int32) (m_fresh : Nat → Int32) (m_kept : Nat → Int32) (m_isKept : Nat → Int32) (m_text : Nat → Int32) (m_said : Nat → Int32) (m_talk : Nat → Int32) : va_W := [(q, .inr (11, [.int m_thrown, .ref q_refused, .ref q_tongue, .ref q_fresh, .ref q_kept, .ref q_isKept, .ref q_text, .int m_size, .int m_at, .int m_start, .int m_token, .long m_value, .int m_faultAt, .ref q_said, .ref q_talk, .int m_allowed, .int m_firstPair, .int m_secondPair, .long m_above, .long m_below])), (q_refused, .inl (cI, 3, .inl m_refused)), (q_tongue, .inl (cI, 73, .inl m_tongue)), (q_fresh, .inl (cI, 73, .inl m_fresh)), (q_kept, .inl (cI, 146, .inl m_kept)), (q_isKept, .inl (cZ, 2, .inl m_isKept)), (q_text, .inl (cI, 150, .inl m_text)), (q_said, .inl (cI, 10, .inl m_said)), (q_talk, .inl (cI, 20480, .inl m_talk))]

set_option maxRecDepth 20000 in
theorem inX11_init_X11 : ∀ w ∈ u_ws RX11 TX11 20, w ∈ wsX11_init := fun w h => by
  obtain ⟨k, hk, rfl⟩ := List.mem_map.mp h
  have hk2 := List.mem_range.mp hk
  exact List.mem_of_getElem? (i := 15 + k) (by rcases (show k = 0 ∨ k = 1 ∨ k = 2 ∨ k = 3 ∨ k = 4 ∨ k = 5 ∨ k = 6 ∨ k = 7 ∨ k = 8 ∨ k = 9 ∨ k = 10 ∨ k = 11 ∨ k = 12 ∨ k = 13 ∨ k = 14 ∨ k = 15 ∨ k = 16 ∨ k = 17 ∨ k = 18 ∨ k = 19 by omega) with rfl | rfl | rfl | rfl | rfl | rfl | rfl | rfl | rfl | rfl | rfl | rfl | rfl | rfl | rfl | rfl | rfl | rfl | rfl | rfl <;> rfl)

abbrev riX11 : Room := { frames := 1, cells := 8, slots := 20937, locals := 20 }

set_option maxRecDepth 100000 in
set_option maxHeartbeats 8000000 in
theorem iX11 (l : Launch) (dC : Nat → ClassId) (dI : Nat → Nat → Nat) (q sz : Nat) : Met l yX11_init wsX11_init riX11 (gm_Pc (dC, dI) [] gm_N [.ref q] [(q, .inr (11, [.int 0, .null, .null, .null, .null, .null, .null, .int 0, .int 0, .int 0, .int 0, .long 0, .int 0, .null, .null, .int 0, .int 0, .int 0, .long 0, .long 0]))] sz) (va_Qv (fun _ : Unit => True) (fun _ t => ∃ (cI cZ : ClassId) (q_refused q_tongue q_fresh q_kept q_isKept q_text q_said q_talk : Nat), va_P (dC, dI) vwCl (wMALL cI cZ q q_refused q_tongue q_fresh q_kept q_isKept q_text q_said q_talk 0 0 0 0 0 0 0 0 0 0 0 1 (fun _ => 0) (fun _ => 0) (fun _ => 0) (fun _ => 0) (fun _ => 0) (fun _ => 0) (fun _ => 0) (fun _ => 0)) t.heap ∧ va_K (dC, dI) vwCl [(cI, .int), (cZ, .boolean)] t ∧ va_D (va_A [(q, .inr (11, [.int 0, .null, .null, .null, .null, .null, .null, .int 0, .int 0, .int 0, .int 0, .long 0, .int 0, .null, .null, .int 0, .int 0, .int 0, .long 0, .long 0]))] sz) (wMALL cI cZ q q_refused q_tongue q_fresh q_kept q_isKept q_text q_said q_talk 0 0 0 0 0 0 0 0 0 0 0 1 (fun _ => 0) (fun _ => 0) (fun _ => 0) (fun _ => 0) (fun _ => 0) (fun _ => 0) (fun _ => 0) (fun _ => 0))) (va_A [(q, .inr (11, [.int 0, .null, .null, .null, .null, .null, .null, .int 0, .int 0, .int 0, .int 0, .long 0, .int 0, .null, .null, .int 0, .int 0, .int 0, .long 0, .long 0]))] sz)) 8 20937 (va_A [(q, .inr (11, [.int 0, .null, .null, .null, .null, .null, .null, .int 0, .int 0, .int 0, .int 0, .long 0, .int 0, .null, .null, .int 0, .int 0, .int 0, .long 0, .long 0]))] sz) := by
  refine Met.ofW (cc := cX11_init) (maxL := 1) (ret := none) (by decide +kernel) rfl ?_
  intro p e s m args below meth c s₁ B hml hv
  obtain ⟨rfl, hsz, hP, hK, hD0, hX⟩ := hv
  have hx := B.exec
  have hb := B.bytes
  have hr := B.returns
  have hts := atoms_spec (ws := wsX11_init) B.pre
  have hown : s.vm.findClass RX11 = some m.cls := findClass_of_methodNamed B.named
  have hlocks := B.notSynchronized
  have hin : meth.name = "<init>" := (name_of_methodNamed B.named B.method).1
  subst hsz
  have hD := hD0.self (sz := s.heap.size)
  generalize hAe : va_A [(q, .inr (11, [.int 0, .null, .null, .null, .null, .null, .null, .int 0, .int 0, .int 0, .int 0, .long 0, .int 0, .null, .null, .int 0, .int 0, .int 0, .long 0, .long 0]))] s.heap.size = A at hD hX ⊢
  have hA : ∀ q : Nat, s.heap.size ≤ q → A q := fun q h => by rw [← hAe]; exact Or.inr h
  have hS : va_S A s.heap s.heap [] := va_S.rf
  have hP : va_P (dC, dI) vwCl [(q, .inr (11, [.int 0, .null, .null, .null, .null, .null, .null, .int 0, .int 0, .int 0, .int 0, .long 0, .int 0, .null, .null, .int 0, .int 0, .int 0, .long 0, .long 0]))] s.heap := hP
  have hl := lv_entry ([.ref q]) (n := 1) (Nat.le_of_ble_eq_true rfl)
  rw [lg_entry_eq]
  generalize (lg_sl ([.ref q]) ++ List.replicate (1 - (lg_sl ([.ref q])).length) Slot.unset).toArray = ls at hl ⊢
  have hl : lv_has ls 1 [(0, .ref q)] := hl
  refine lv_aload_n hx hb dX11_init_0 rfl (lv_at hl 0 rfl) ?_
  refine W.objInit hx hb hown (hts (.methodLink RX11 1 objectInit) (List.mem_of_getElem? (i := 1) rfl)) (hts (.instanceMethod objectInit) (List.mem_of_getElem? (i := 2) rfl)) (hts (.code objectInit ⟨#[0xb1]⟩ 1 none) (List.mem_of_getElem? (i := 3) rfl)) rfl (by rw [hml]; exact hl.1) rfl dX11_init_1 (Nat.le_of_ble_eq_true rfl) (Nat.le_of_ble_eq_true rfl) ?_
  refine W.eq (g2 := F0 m 4 ls []) rfl ?_
  refine lv_aload_n hx hb dX11_init_4 rfl (lv_at hl 0 rfl) ?_
  refine lv_iconst (v := 3) hx hb dX11_init_5 (by decide) ?_
  refine va_newa (a0 := (3, .inl (fun _ => 0))) (ty := .int) (atype := .int) hx hb (hts (.arrayClass .int) (List.mem_of_getElem? (i := 4) rfl)) rfl hK hP hD hS hA (fun cA => vp_cell_i cA 3 (fun _ => 0)) (by decide +kernel) (by decide +kernel) (by decide +kernel) (show 0 + 1 ≤ 8 by decide +kernel) (show 0 + 3 ≤ 20937 by decide +kernel) dX11_init_6 (fun a1 c1 H hK hP hD hS => ?_)
  refine W.widen (k := 1) (n := 3) (by decide +kernel) (by decide +kernel) ?_
  have hK : va_K (dC, dI) vwCl [(c1, .int)] s := hK
  have hP : va_P (dC, dI) vwCl [(q, .inr (11, [.int 0, .null, .null, .null, .null, .null, .null, .int 0, .int 0, .int 0, .int 0, .long 0, .int 0, .null, .null, .int 0, .int 0, .int 0, .long 0, .long 0])), (a1, .inl (c1, 3, .inl (fun _ => 0)))] H := hP
  have hD : va_D A [(q, .inr (11, [.int 0, .null, .null, .null, .null, .null, .null, .int 0, .int 0, .int 0, .int 0, .long 0, .int 0, .null, .null, .int 0, .int 0, .int 0, .long 0, .long 0])), (a1, .inl (c1, 3, .inl (fun _ => 0)))] := hD
  refine va_putF (D := (dC, dI)) (ci := 11) (v := .ref a1) (ty := .array .int) (C := RX11) (T := TX11) (N := 20) hx hb hts inX11_init_X11 tyX11 tyX11_ok nmX11 hown hK hP hD hS 0 rfl rfl 1 (by decide) (hts (.fieldLink RX11 7 "OnlyRhymesModel" "refused" "[I") (List.mem_of_getElem? (i := 5) rfl)) (fun _ h9 => h9) rfl hin rfl (by decide +kernel) rfl rfl (Nat.le_of_ble_eq_true rfl) dX11_init_8 (fun H locs hP hD hS => ?_)
  have hP : va_P (dC, dI) vwCl [(q, .inr (11, [.int 0, .ref a1, .null, .null, .null, .null, .null, .int 0, .int 0, .int 0, .int 0, .long 0, .int 0, .null, .null, .int 0, .int 0, .int 0, .long 0, .long 0])), (a1, .inl (c1, 3, .inl (fun _ => 0)))] H := hP
  have hD : va_D A [(q, .inr (11, [.int 0, .ref a1, .null, .null, .null, .null, .null, .int 0, .int 0, .int 0, .int 0, .long 0, .int 0, .null, .null, .int 0, .int 0, .int 0, .long 0, .long 0])), (a1, .inl (c1, 3, .inl (fun _ => 0)))] := hD
  refine lv_aload_n hx hb dX11_init_11 rfl (lv_at hl 0 rfl) ?_
  refine lv_bipush (v := 73) hx hb dX11_init_12 (by decide) ?_
  refine va_newa (a0 := (73, .inl (fun _ => 0))) (ty := .int) (atype := .int) hx hb (hts (.arrayClass .int) (List.mem_of_getElem? (i := 4) rfl)) rfl hK hP hD hS hA (fun cA => vp_cell_i cA 73 (fun _ => 0)) (by decide +kernel) (by decide +kernel) (by decide +kernel) (show 1 + 1 ≤ 8 by decide +kernel) (show 3 + 73 ≤ 20937 by decide +kernel) dX11_init_14 (fun a2 c2 H hK hP hD hS => ?_)
  refine W.widen (k := 2) (n := 76) (by decide +kernel) (by decide +kernel) ?_
  obtain rfl : c1 = c2 := gm_cE hK 0 1 rfl rfl (by intro _ h; cases h)
  have hK := hK.sub (tys' := [(c1, .int)]) [0] rfl
  have hP : va_P (dC, dI) vwCl [(q, .inr (11, [.int 0, .ref a1, .null, .null, .null, .null, .null, .int 0, .int 0, .int 0, .int 0, .long 0, .int 0, .null, .null, .int 0, .int 0, .int 0, .long 0, .long 0])), (a1, .inl (c1, 3, .inl (fun _ => 0))), (a2, .inl (c1, 73, .inl (fun _ => 0)))] H := hP
  have hD : va_D A [(q, .inr (11, [.int 0, .ref a1, .null, .null, .null, .null, .null, .int 0, .int 0, .int 0, .int 0, .long 0, .int 0, .null, .null, .int 0, .int 0, .int 0, .long 0, .long 0])), (a1, .inl (c1, 3, .inl (fun _ => 0))), (a2, .inl (c1, 73, .inl (fun _ => 0)))] := hD
  refine va_putF (D := (dC, dI)) (ci := 11) (v := .ref a2) (ty := .array .int) (C := RX11) (T := TX11) (N := 20) hx hb hts inX11_init_X11 tyX11 tyX11_ok nmX11 hown hK hP hD hS 0 rfl rfl 2 (by decide) (hts (.fieldLink RX11 13 "OnlyRhymesModel" "tongue" "[I") (List.mem_of_getElem? (i := 6) rfl)) (fun _ h9 => h9) rfl hin rfl (by decide +kernel) rfl rfl (Nat.le_of_ble_eq_true rfl) dX11_init_16 (fun H locs hP hD hS => ?_)
  have hP : va_P (dC, dI) vwCl [(q, .inr (11, [.int 0, .ref a1, .ref a2, .null, .null, .null, .null, .int 0, .int 0, .int 0, .int 0, .long 0, .int 0, .null, .null, .int 0, .int 0, .int 0, .long 0, .long 0])), (a1, .inl (c1, 3, .inl (fun _ => 0))), (a2, .inl (c1, 73, .inl (fun _ => 0)))] H := hP
  have hD : va_D A [(q, .inr (11, [.int 0, .ref a1, .ref a2, .null, .null, .null, .null, .int 0, .int 0, .int 0, .int 0, .long 0, .int 0, .null, .null, .int 0, .int 0, .int 0, .long 0, .long 0])), (a1, .inl (c1, 3, .inl (fun _ => 0))), (a2, .inl (c1, 73, .inl (fun _ => 0)))] := hD
  refine lv_aload_n hx hb dX11_init_19 rfl (lv_at hl 0 rfl) ?_
  refine lv_bipush (v := 73) hx hb dX11_init_20 (by decide) ?_
  refine va_newa (a0 := (73, .inl (fun _ => 0))) (ty := .int) (atype := .int) hx hb (hts (.arrayClass .int) (List.mem_of_getElem? (i := 4) rfl)) rfl hK hP hD hS hA (fun cA => vp_cell_i cA 73 (fun _ => 0)) (by decide +kernel) (by decide +kernel) (by decide +kernel) (show 2 + 1 ≤ 8 by decide +kernel) (show 76 + 73 ≤ 20937 by decide +kernel) dX11_init_22 (fun a3 c3 H hK hP hD hS => ?_)
  refine W.widen (k := 3) (n := 149) (by decide +kernel) (by decide +kernel) ?_
  obtain rfl : c1 = c3 := gm_cE hK 0 1 rfl rfl (by intro _ h; cases h)
  have hK := hK.sub (tys' := [(c1, .int)]) [0] rfl
  have hP : va_P (dC, dI) vwCl [(q, .inr (11, [.int 0, .ref a1, .ref a2, .null, .null, .null, .null, .int 0, .int 0, .int 0, .int 0, .long 0, .int 0, .null, .null, .int 0, .int 0, .int 0, .long 0, .long 0])), (a1, .inl (c1, 3, .inl (fun _ => 0))), (a2, .inl (c1, 73, .inl (fun _ => 0))), (a3, .inl (c1, 73, .inl (fun _ => 0)))] H := hP
  have hD : va_D A [(q, .inr (11, [.int 0, .ref a1, .ref a2, .null, .null, .null, .null, .int 0, .int 0, .int 0, .int 0, .long 0, .int 0, .null, .null, .int 0, .int 0, .int 0, .long 0, .long 0])), (a1, .inl (c1, 3, .inl (fun _ => 0))), (a2, .inl (c1, 73, .inl (fun _ => 0))), (a3, .inl (c1, 73, .inl (fun _ => 0)))] := hD
  refine va_putF (D := (dC, dI)) (ci := 11) (v := .ref a3) (ty := .array .int) (C := RX11) (T := TX11) (N := 20) hx hb hts inX11_init_X11 tyX11 tyX11_ok nmX11 hown hK hP hD hS 0 rfl rfl 3 (by decide) (hts (.fieldLink RX11 16 "OnlyRhymesModel" "fresh" "[I") (List.mem_of_getElem? (i := 7) rfl)) (fun _ h9 => h9) rfl hin rfl (by decide +kernel) rfl rfl (Nat.le_of_ble_eq_true rfl) dX11_init_24 (fun H locs hP hD hS => ?_)
  have hP : va_P (dC, dI) vwCl [(q, .inr (11, [.int 0, .ref a1, .ref a2, .ref a3, .null, .null, .null, .int 0, .int 0, .int 0, .int 0, .long 0, .int 0, .null, .null, .int 0, .int 0, .int 0, .long 0, .long 0])), (a1, .inl (c1, 3, .inl (fun _ => 0))), (a2, .inl (c1, 73, .inl (fun _ => 0))), (a3, .inl (c1, 73, .inl (fun _ => 0)))] H := hP
  have hD : va_D A [(q, .inr (11, [.int 0, .ref a1, .ref a2, .ref a3, .null, .null, .null, .int 0, .int 0, .int 0, .int 0, .long 0, .int 0, .null, .null, .int 0, .int 0, .int 0, .long 0, .long 0])), (a1, .inl (c1, 3, .inl (fun _ => 0))), (a2, .inl (c1, 73, .inl (fun _ => 0))), (a3, .inl (c1, 73, .inl (fun _ => 0)))] := hD
  refine lv_aload_n hx hb dX11_init_27 rfl (lv_at hl 0 rfl) ?_
  refine lv_sipush (v := 146) hx hb dX11_init_28 (by decide) ?_
  refine va_newa (a0 := (146, .inl (fun _ => 0))) (ty := .int) (atype := .int) hx hb (hts (.arrayClass .int) (List.mem_of_getElem? (i := 4) rfl)) rfl hK hP hD hS hA (fun cA => vp_cell_i cA 146 (fun _ => 0)) (by decide +kernel) (by decide +kernel) (by decide +kernel) (show 3 + 1 ≤ 8 by decide +kernel) (show 149 + 146 ≤ 20937 by decide +kernel) dX11_init_31 (fun a4 c4 H hK hP hD hS => ?_)
  refine W.widen (k := 4) (n := 295) (by decide +kernel) (by decide +kernel) ?_
  obtain rfl : c1 = c4 := gm_cE hK 0 1 rfl rfl (by intro _ h; cases h)
  have hK := hK.sub (tys' := [(c1, .int)]) [0] rfl
  have hP : va_P (dC, dI) vwCl [(q, .inr (11, [.int 0, .ref a1, .ref a2, .ref a3, .null, .null, .null, .int 0, .int 0, .int 0, .int 0, .long 0, .int 0, .null, .null, .int 0, .int 0, .int 0, .long 0, .long 0])), (a1, .inl (c1, 3, .inl (fun _ => 0))), (a2, .inl (c1, 73, .inl (fun _ => 0))), (a3, .inl (c1, 73, .inl (fun _ => 0))), (a4, .inl (c1, 146, .inl (fun _ => 0)))] H := hP
  have hD : va_D A [(q, .inr (11, [.int 0, .ref a1, .ref a2, .ref a3, .null, .null, .null, .int 0, .int 0, .int 0, .int 0, .long 0, .int 0, .null, .null, .int 0, .int 0, .int 0, .long 0, .long 0])), (a1, .inl (c1, 3, .inl (fun _ => 0))), (a2, .inl (c1, 73, .inl (fun _ => 0))), (a3, .inl (c1, 73, .inl (fun _ => 0))), (a4, .inl (c1, 146, .inl (fun _ => 0)))] := hD
  refine va_putF (D := (dC, dI)) (ci := 11) (v := .ref a4) (ty := .array .int) (C := RX11) (T := TX11) (N := 20) hx hb hts inX11_init_X11 tyX11 tyX11_ok nmX11 hown hK hP hD hS 0 rfl rfl 4 (by decide) (hts (.fieldLink RX11 19 "OnlyRhymesModel" "kept" "[I") (List.mem_of_getElem? (i := 8) rfl)) (fun _ h9 => h9) rfl hin rfl (by decide +kernel) rfl rfl (Nat.le_of_ble_eq_true rfl) dX11_init_33 (fun H locs hP hD hS => ?_)
  have hP : va_P (dC, dI) vwCl [(q, .inr (11, [.int 0, .ref a1, .ref a2, .ref a3, .ref a4, .null, .null, .int 0, .int 0, .int 0, .int 0, .long 0, .int 0, .null, .null, .int 0, .int 0, .int 0, .long 0, .long 0])), (a1, .inl (c1, 3, .inl (fun _ => 0))), (a2, .inl (c1, 73, .inl (fun _ => 0))), (a3, .inl (c1, 73, .inl (fun _ => 0))), (a4, .inl (c1, 146, .inl (fun _ => 0)))] H := hP
  have hD : va_D A [(q, .inr (11, [.int 0, .ref a1, .ref a2, .ref a3, .ref a4, .null, .null, .int 0, .int 0, .int 0, .int 0, .long 0, .int 0, .null, .null, .int 0, .int 0, .int 0, .long 0, .long 0])), (a1, .inl (c1, 3, .inl (fun _ => 0))), (a2, .inl (c1, 73, .inl (fun _ => 0))), (a3, .inl (c1, 73, .inl (fun _ => 0))), (a4, .inl (c1, 146, .inl (fun _ => 0)))] := hD
  refine lv_aload_n hx hb dX11_init_36 rfl (lv_at hl 0 rfl) ?_
  refine lv_iconst (v := 2) hx hb dX11_init_37 (by decide) ?_
  refine va_newa (a0 := (2, .inl (fun _ => 0))) (ty := .boolean) (atype := .boolean) hx hb (hts (.arrayClass .boolean) (List.mem_of_getElem? (i := 9) rfl)) rfl hK hP hD hS hA (fun cA => vp_cell_i cA 2 (fun _ => 0)) (by decide +kernel) (by decide +kernel) (by decide +kernel) (show 4 + 1 ≤ 8 by decide +kernel) (show 295 + 2 ≤ 20937 by decide +kernel) dX11_init_38 (fun a5 c5 H hK hP hD hS => ?_)
  refine W.widen (k := 5) (n := 297) (by decide +kernel) (by decide +kernel) ?_
  have hK : va_K (dC, dI) vwCl [(c1, .int), (c5, .boolean)] s := hK
  have hP : va_P (dC, dI) vwCl [(q, .inr (11, [.int 0, .ref a1, .ref a2, .ref a3, .ref a4, .null, .null, .int 0, .int 0, .int 0, .int 0, .long 0, .int 0, .null, .null, .int 0, .int 0, .int 0, .long 0, .long 0])), (a1, .inl (c1, 3, .inl (fun _ => 0))), (a2, .inl (c1, 73, .inl (fun _ => 0))), (a3, .inl (c1, 73, .inl (fun _ => 0))), (a4, .inl (c1, 146, .inl (fun _ => 0))), (a5, .inl (c5, 2, .inl (fun _ => 0)))] H := hP
  have hD : va_D A [(q, .inr (11, [.int 0, .ref a1, .ref a2, .ref a3, .ref a4, .null, .null, .int 0, .int 0, .int 0, .int 0, .long 0, .int 0, .null, .null, .int 0, .int 0, .int 0, .long 0, .long 0])), (a1, .inl (c1, 3, .inl (fun _ => 0))), (a2, .inl (c1, 73, .inl (fun _ => 0))), (a3, .inl (c1, 73, .inl (fun _ => 0))), (a4, .inl (c1, 146, .inl (fun _ => 0))), (a5, .inl (c5, 2, .inl (fun _ => 0)))] := hD
  refine va_putF (D := (dC, dI)) (ci := 11) (v := .ref a5) (ty := .array .boolean) (C := RX11) (T := TX11) (N := 20) hx hb hts inX11_init_X11 tyX11 tyX11_ok nmX11 hown hK hP hD hS 0 rfl rfl 5 (by decide) (hts (.fieldLink RX11 22 "OnlyRhymesModel" "isKept" "[Z") (List.mem_of_getElem? (i := 10) rfl)) (fun _ h9 => h9) rfl hin rfl (by decide +kernel) rfl rfl (Nat.le_of_ble_eq_true rfl) dX11_init_40 (fun H locs hP hD hS => ?_)
  have hP : va_P (dC, dI) vwCl [(q, .inr (11, [.int 0, .ref a1, .ref a2, .ref a3, .ref a4, .ref a5, .null, .int 0, .int 0, .int 0, .int 0, .long 0, .int 0, .null, .null, .int 0, .int 0, .int 0, .long 0, .long 0])), (a1, .inl (c1, 3, .inl (fun _ => 0))), (a2, .inl (c1, 73, .inl (fun _ => 0))), (a3, .inl (c1, 73, .inl (fun _ => 0))), (a4, .inl (c1, 146, .inl (fun _ => 0))), (a5, .inl (c5, 2, .inl (fun _ => 0)))] H := hP
  have hD : va_D A [(q, .inr (11, [.int 0, .ref a1, .ref a2, .ref a3, .ref a4, .ref a5, .null, .int 0, .int 0, .int 0, .int 0, .long 0, .int 0, .null, .null, .int 0, .int 0, .int 0, .long 0, .long 0])), (a1, .inl (c1, 3, .inl (fun _ => 0))), (a2, .inl (c1, 73, .inl (fun _ => 0))), (a3, .inl (c1, 73, .inl (fun _ => 0))), (a4, .inl (c1, 146, .inl (fun _ => 0))), (a5, .inl (c5, 2, .inl (fun _ => 0)))] := hD
  refine lv_aload_n hx hb dX11_init_43 rfl (lv_at hl 0 rfl) ?_
  refine lv_sipush (v := 150) hx hb dX11_init_44 (by decide) ?_
  refine va_newa (a0 := (150, .inl (fun _ => 0))) (ty := .int) (atype := .int) hx hb (hts (.arrayClass .int) (List.mem_of_getElem? (i := 4) rfl)) rfl hK hP hD hS hA (fun cA => vp_cell_i cA 150 (fun _ => 0)) (by decide +kernel) (by decide +kernel) (by decide +kernel) (show 5 + 1 ≤ 8 by decide +kernel) (show 297 + 150 ≤ 20937 by decide +kernel) dX11_init_47 (fun a6 c6 H hK hP hD hS => ?_)
  refine W.widen (k := 6) (n := 447) (by decide +kernel) (by decide +kernel) ?_
  obtain rfl : c1 = c6 := gm_cE hK 0 2 rfl rfl (by intro _ h; cases h)
  have hK := hK.sub (tys' := [(c1, .int), (c5, .boolean)]) [0, 1] rfl
  have hP : va_P (dC, dI) vwCl [(q, .inr (11, [.int 0, .ref a1, .ref a2, .ref a3, .ref a4, .ref a5, .null, .int 0, .int 0, .int 0, .int 0, .long 0, .int 0, .null, .null, .int 0, .int 0, .int 0, .long 0, .long 0])), (a1, .inl (c1, 3, .inl (fun _ => 0))), (a2, .inl (c1, 73, .inl (fun _ => 0))), (a3, .inl (c1, 73, .inl (fun _ => 0))), (a4, .inl (c1, 146, .inl (fun _ => 0))), (a5, .inl (c5, 2, .inl (fun _ => 0))), (a6, .inl (c1, 150, .inl (fun _ => 0)))] H := hP
  have hD : va_D A [(q, .inr (11, [.int 0, .ref a1, .ref a2, .ref a3, .ref a4, .ref a5, .null, .int 0, .int 0, .int 0, .int 0, .long 0, .int 0, .null, .null, .int 0, .int 0, .int 0, .long 0, .long 0])), (a1, .inl (c1, 3, .inl (fun _ => 0))), (a2, .inl (c1, 73, .inl (fun _ => 0))), (a3, .inl (c1, 73, .inl (fun _ => 0))), (a4, .inl (c1, 146, .inl (fun _ => 0))), (a5, .inl (c5, 2, .inl (fun _ => 0))), (a6, .inl (c1, 150, .inl (fun _ => 0)))] := hD
  refine va_putF (D := (dC, dI)) (ci := 11) (v := .ref a6) (ty := .array .int) (C := RX11) (T := TX11) (N := 20) hx hb hts inX11_init_X11 tyX11 tyX11_ok nmX11 hown hK hP hD hS 0 rfl rfl 6 (by decide) (hts (.fieldLink RX11 26 "OnlyRhymesModel" "text" "[I") (List.mem_of_getElem? (i := 11) rfl)) (fun _ h9 => h9) rfl hin rfl (by decide +kernel) rfl rfl (Nat.le_of_ble_eq_true rfl) dX11_init_49 (fun H locs hP hD hS => ?_)
  have hP : va_P (dC, dI) vwCl [(q, .inr (11, [.int 0, .ref a1, .ref a2, .ref a3, .ref a4, .ref a5, .ref a6, .int 0, .int 0, .int 0, .int 0, .long 0, .int 0, .null, .null, .int 0, .int 0, .int 0, .long 0, .long 0])), (a1, .inl (c1, 3, .inl (fun _ => 0))), (a2, .inl (c1, 73, .inl (fun _ => 0))), (a3, .inl (c1, 73, .inl (fun _ => 0))), (a4, .inl (c1, 146, .inl (fun _ => 0))), (a5, .inl (c5, 2, .inl (fun _ => 0))), (a6, .inl (c1, 150, .inl (fun _ => 0)))] H := hP
  have hD : va_D A [(q, .inr (11, [.int 0, .ref a1, .ref a2, .ref a3, .ref a4, .ref a5, .ref a6, .int 0, .int 0, .int 0, .int 0, .long 0, .int 0, .null, .null, .int 0, .int 0, .int 0, .long 0, .long 0])), (a1, .inl (c1, 3, .inl (fun _ => 0))), (a2, .inl (c1, 73, .inl (fun _ => 0))), (a3, .inl (c1, 73, .inl (fun _ => 0))), (a4, .inl (c1, 146, .inl (fun _ => 0))), (a5, .inl (c5, 2, .inl (fun _ => 0))), (a6, .inl (c1, 150, .inl (fun _ => 0)))] := hD
  refine lv_aload_n hx hb dX11_init_52 rfl (lv_at hl 0 rfl) ?_
  refine lv_bipush (v := 10) hx hb dX11_init_53 (by decide) ?_
  refine va_newa (a0 := (10, .inl (fun _ => 0))) (ty := .int) (atype := .int) hx hb (hts (.arrayClass .int) (List.mem_of_getElem? (i := 4) rfl)) rfl hK hP hD hS hA (fun cA => vp_cell_i cA 10 (fun _ => 0)) (by decide +kernel) (by decide +kernel) (by decide +kernel) (show 6 + 1 ≤ 8 by decide +kernel) (show 447 + 10 ≤ 20937 by decide +kernel) dX11_init_55 (fun a7 c7 H hK hP hD hS => ?_)
  refine W.widen (k := 7) (n := 457) (by decide +kernel) (by decide +kernel) ?_
  obtain rfl : c1 = c7 := gm_cE hK 0 2 rfl rfl (by intro _ h; cases h)
  have hK := hK.sub (tys' := [(c1, .int), (c5, .boolean)]) [0, 1] rfl
  have hP : va_P (dC, dI) vwCl [(q, .inr (11, [.int 0, .ref a1, .ref a2, .ref a3, .ref a4, .ref a5, .ref a6, .int 0, .int 0, .int 0, .int 0, .long 0, .int 0, .null, .null, .int 0, .int 0, .int 0, .long 0, .long 0])), (a1, .inl (c1, 3, .inl (fun _ => 0))), (a2, .inl (c1, 73, .inl (fun _ => 0))), (a3, .inl (c1, 73, .inl (fun _ => 0))), (a4, .inl (c1, 146, .inl (fun _ => 0))), (a5, .inl (c5, 2, .inl (fun _ => 0))), (a6, .inl (c1, 150, .inl (fun _ => 0))), (a7, .inl (c1, 10, .inl (fun _ => 0)))] H := hP
  have hD : va_D A [(q, .inr (11, [.int 0, .ref a1, .ref a2, .ref a3, .ref a4, .ref a5, .ref a6, .int 0, .int 0, .int 0, .int 0, .long 0, .int 0, .null, .null, .int 0, .int 0, .int 0, .long 0, .long 0])), (a1, .inl (c1, 3, .inl (fun _ => 0))), (a2, .inl (c1, 73, .inl (fun _ => 0))), (a3, .inl (c1, 73, .inl (fun _ => 0))), (a4, .inl (c1, 146, .inl (fun _ => 0))), (a5, .inl (c5, 2, .inl (fun _ => 0))), (a6, .inl (c1, 150, .inl (fun _ => 0))), (a7, .inl (c1, 10, .inl (fun _ => 0)))] := hD
  refine va_putF (D := (dC, dI)) (ci := 11) (v := .ref a7) (ty := .array .int) (C := RX11) (T := TX11) (N := 20) hx hb hts inX11_init_X11 tyX11 tyX11_ok nmX11 hown hK hP hD hS 0 rfl rfl 13 (by decide) (hts (.fieldLink RX11 29 "OnlyRhymesModel" "said" "[I") (List.mem_of_getElem? (i := 12) rfl)) (fun _ h9 => h9) rfl hin rfl (by decide +kernel) rfl rfl (Nat.le_of_ble_eq_true rfl) dX11_init_57 (fun H locs hP hD hS => ?_)
  have hP : va_P (dC, dI) vwCl [(q, .inr (11, [.int 0, .ref a1, .ref a2, .ref a3, .ref a4, .ref a5, .ref a6, .int 0, .int 0, .int 0, .int 0, .long 0, .int 0, .ref a7, .null, .int 0, .int 0, .int 0, .long 0, .long 0])), (a1, .inl (c1, 3, .inl (fun _ => 0))), (a2, .inl (c1, 73, .inl (fun _ => 0))), (a3, .inl (c1, 73, .inl (fun _ => 0))), (a4, .inl (c1, 146, .inl (fun _ => 0))), (a5, .inl (c5, 2, .inl (fun _ => 0))), (a6, .inl (c1, 150, .inl (fun _ => 0))), (a7, .inl (c1, 10, .inl (fun _ => 0)))] H := hP
  have hD : va_D A [(q, .inr (11, [.int 0, .ref a1, .ref a2, .ref a3, .ref a4, .ref a5, .ref a6, .int 0, .int 0, .int 0, .int 0, .long 0, .int 0, .ref a7, .null, .int 0, .int 0, .int 0, .long 0, .long 0])), (a1, .inl (c1, 3, .inl (fun _ => 0))), (a2, .inl (c1, 73, .inl (fun _ => 0))), (a3, .inl (c1, 73, .inl (fun _ => 0))), (a4, .inl (c1, 146, .inl (fun _ => 0))), (a5, .inl (c5, 2, .inl (fun _ => 0))), (a6, .inl (c1, 150, .inl (fun _ => 0))), (a7, .inl (c1, 10, .inl (fun _ => 0)))] := hD
  refine lv_aload_n hx hb dX11_init_60 rfl (lv_at hl 0 rfl) ?_
  refine lv_sipush (v := 20480) hx hb dX11_init_61 (by decide) ?_
  refine va_newa (a0 := (20480, .inl (fun _ => 0))) (ty := .int) (atype := .int) hx hb (hts (.arrayClass .int) (List.mem_of_getElem? (i := 4) rfl)) rfl hK hP hD hS hA (fun cA => vp_cell_i cA 20480 (fun _ => 0)) (by decide +kernel) (by decide +kernel) (by decide +kernel) (show 7 + 1 ≤ 8 by decide +kernel) (show 457 + 20480 ≤ 20937 by decide +kernel) dX11_init_64 (fun a8 c8 H hK hP hD hS => ?_)
  refine W.widen (k := 8) (n := 20937) (by decide +kernel) (by decide +kernel) ?_
  obtain rfl : c1 = c8 := gm_cE hK 0 2 rfl rfl (by intro _ h; cases h)
  have hK := hK.sub (tys' := [(c1, .int), (c5, .boolean)]) [0, 1] rfl
  have hP : va_P (dC, dI) vwCl [(q, .inr (11, [.int 0, .ref a1, .ref a2, .ref a3, .ref a4, .ref a5, .ref a6, .int 0, .int 0, .int 0, .int 0, .long 0, .int 0, .ref a7, .null, .int 0, .int 0, .int 0, .long 0, .long 0])), (a1, .inl (c1, 3, .inl (fun _ => 0))), (a2, .inl (c1, 73, .inl (fun _ => 0))), (a3, .inl (c1, 73, .inl (fun _ => 0))), (a4, .inl (c1, 146, .inl (fun _ => 0))), (a5, .inl (c5, 2, .inl (fun _ => 0))), (a6, .inl (c1, 150, .inl (fun _ => 0))), (a7, .inl (c1, 10, .inl (fun _ => 0))), (a8, .inl (c1, 20480, .inl (fun _ => 0)))] H := hP
  have hD : va_D A [(q, .inr (11, [.int 0, .ref a1, .ref a2, .ref a3, .ref a4, .ref a5, .ref a6, .int 0, .int 0, .int 0, .int 0, .long 0, .int 0, .ref a7, .null, .int 0, .int 0, .int 0, .long 0, .long 0])), (a1, .inl (c1, 3, .inl (fun _ => 0))), (a2, .inl (c1, 73, .inl (fun _ => 0))), (a3, .inl (c1, 73, .inl (fun _ => 0))), (a4, .inl (c1, 146, .inl (fun _ => 0))), (a5, .inl (c5, 2, .inl (fun _ => 0))), (a6, .inl (c1, 150, .inl (fun _ => 0))), (a7, .inl (c1, 10, .inl (fun _ => 0))), (a8, .inl (c1, 20480, .inl (fun _ => 0)))] := hD
  refine va_putF (D := (dC, dI)) (ci := 11) (v := .ref a8) (ty := .array .int) (C := RX11) (T := TX11) (N := 20) hx hb hts inX11_init_X11 tyX11 tyX11_ok nmX11 hown hK hP hD hS 0 rfl rfl 14 (by decide) (hts (.fieldLink RX11 32 "OnlyRhymesModel" "talk" "[I") (List.mem_of_getElem? (i := 13) rfl)) (fun _ h9 => h9) rfl hin rfl (by decide +kernel) rfl rfl (Nat.le_of_ble_eq_true rfl) dX11_init_66 (fun H locs hP hD hS => ?_)
  have hP : va_P (dC, dI) vwCl [(q, .inr (11, [.int 0, .ref a1, .ref a2, .ref a3, .ref a4, .ref a5, .ref a6, .int 0, .int 0, .int 0, .int 0, .long 0, .int 0, .ref a7, .ref a8, .int 0, .int 0, .int 0, .long 0, .long 0])), (a1, .inl (c1, 3, .inl (fun _ => 0))), (a2, .inl (c1, 73, .inl (fun _ => 0))), (a3, .inl (c1, 73, .inl (fun _ => 0))), (a4, .inl (c1, 146, .inl (fun _ => 0))), (a5, .inl (c5, 2, .inl (fun _ => 0))), (a6, .inl (c1, 150, .inl (fun _ => 0))), (a7, .inl (c1, 10, .inl (fun _ => 0))), (a8, .inl (c1, 20480, .inl (fun _ => 0)))] H := hP
  have hD : va_D A [(q, .inr (11, [.int 0, .ref a1, .ref a2, .ref a3, .ref a4, .ref a5, .ref a6, .int 0, .int 0, .int 0, .int 0, .long 0, .int 0, .ref a7, .ref a8, .int 0, .int 0, .int 0, .long 0, .long 0])), (a1, .inl (c1, 3, .inl (fun _ => 0))), (a2, .inl (c1, 73, .inl (fun _ => 0))), (a3, .inl (c1, 73, .inl (fun _ => 0))), (a4, .inl (c1, 146, .inl (fun _ => 0))), (a5, .inl (c5, 2, .inl (fun _ => 0))), (a6, .inl (c1, 150, .inl (fun _ => 0))), (a7, .inl (c1, 10, .inl (fun _ => 0))), (a8, .inl (c1, 20480, .inl (fun _ => 0)))] := hD
  refine lv_aload_n hx hb dX11_init_69 rfl (lv_at hl 0 rfl) ?_
  refine lv_lconst (v := 1) hx hb dX11_init_70 (by decide) ?_
  refine va_put (D := (dC, dI)) (ci := 11) (v := .long 1) (ty := .long) (C := RX11) (T := TX11) (N := 20) hx hb hts inX11_init_X11 tyX11 tyX11_ok nmX11 hown hK hP hD hS 0 rfl rfl 19 (by decide) (hts (.fieldLink RX11 35 "OnlyRhymesModel" "below" "J") (List.mem_of_getElem? (i := 14) rfl)) (fun _ h9 => h9) rfl (by decide +kernel) rfl rfl (Nat.le_of_ble_eq_true rfl) dX11_init_71 (fun H locs hP hD hS => ?_)
  have hP : va_P (dC, dI) vwCl [(q, .inr (11, [.int 0, .ref a1, .ref a2, .ref a3, .ref a4, .ref a5, .ref a6, .int 0, .int 0, .int 0, .int 0, .long 0, .int 0, .ref a7, .ref a8, .int 0, .int 0, .int 0, .long 0, .long 1])), (a1, .inl (c1, 3, .inl (fun _ => 0))), (a2, .inl (c1, 73, .inl (fun _ => 0))), (a3, .inl (c1, 73, .inl (fun _ => 0))), (a4, .inl (c1, 146, .inl (fun _ => 0))), (a5, .inl (c5, 2, .inl (fun _ => 0))), (a6, .inl (c1, 150, .inl (fun _ => 0))), (a7, .inl (c1, 10, .inl (fun _ => 0))), (a8, .inl (c1, 20480, .inl (fun _ => 0)))] H := hP
  have hD : va_D A [(q, .inr (11, [.int 0, .ref a1, .ref a2, .ref a3, .ref a4, .ref a5, .ref a6, .int 0, .int 0, .int 0, .int 0, .long 0, .int 0, .ref a7, .ref a8, .int 0, .int 0, .int 0, .long 0, .long 1])), (a1, .inl (c1, 3, .inl (fun _ => 0))), (a2, .inl (c1, 73, .inl (fun _ => 0))), (a3, .inl (c1, 73, .inl (fun _ => 0))), (a4, .inl (c1, 146, .inl (fun _ => 0))), (a5, .inl (c5, 2, .inl (fun _ => 0))), (a6, .inl (c1, 150, .inl (fun _ => 0))), (a7, .inl (c1, 10, .inl (fun _ => 0))), (a8, .inl (c1, 20480, .inl (fun _ => 0)))] := hD
  have hP9 := hP.sub (ws' := (wMALL c1 c5 q a1 a2 a3 a4 a5 a6 a7 a8 0 0 0 0 0 0 0 0 0 0 0 1 (fun _ => 0) (fun _ => 0) (fun _ => 0) (fun _ => 0) (fun _ => 0) (fun _ => 0) (fun _ => 0) (fun _ => 0))) [0, 1, 2, 3, 4, 5, 6, 7, 8] rfl
  have hD9 := hD.sub (ws' := (wMALL c1 c5 q a1 a2 a3 a4 a5 a6 a7 a8 0 0 0 0 0 0 0 0 0 0 0 1 (fun _ => 0) (fun _ => 0) (fun _ => 0) (fun _ => 0) (fun _ => 0) (fun _ => 0) (fun _ => 0) (fun _ => 0))) [0, 1, 2, 3, 4, 5, 6, 7, 8] (by decide) rfl
  have hK9 := hK.sub (tys' := [(c1, .int), (c5, .boolean)]) [0, 1] rfl
  exact W.vret hx hb hr (fun t ht hW => ⟨⟨(), rfl, trivial, c1, c5, a1, a2, a3, a4, a5, a6, a7, a8, by rw [ht]; exact hP9, va_K.moved hW.alike hK9, hD9⟩, hS.F ht⟩) hS.2.2 dX11_init_74
