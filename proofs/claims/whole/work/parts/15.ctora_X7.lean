abbrev riX7 : Room := { frames := 1, cells := 0, slots := 0, locals := 20 }

set_option maxRecDepth 100000 in
set_option maxHeartbeats 8000000 in
theorem iX7 (l : Launch) (dC : Nat → ClassId) (dI : Nat → Nat → Nat) (q sz : Nat) (ci : Nat) : Met l yX7_init wsX7_init riX7 (gm_Pc (dC, dI) [] gm_N [.ref q] [(q, .inr (ci, []))] sz) (va_Qv (fun _ : Unit => True) (fun _ t => va_P (dC, dI) vwCl [(q, .inr (ci, []))] t.heap ∧ va_K (dC, dI) vwCl [] t ∧ va_D (va_A [(q, .inr (ci, []))] sz) [(q, .inr (ci, []))]) (va_A [(q, .inr (ci, []))] sz)) 0 0 (va_A [(q, .inr (ci, []))] sz) := by
  refine Met.ofW (cc := cX7_init) (maxL := 1) (ret := none) (by decide +kernel) rfl ?_
  intro p e s m args below meth c s₁ B hml hv
  obtain ⟨rfl, hsz, hP, hK, hD0, hX⟩ := hv
  have hx := B.exec
  have hb := B.bytes
  have hr := B.returns
  have hts := atoms_spec (ws := wsX7_init) B.pre
  have hown : s.vm.findClass RX7 = some m.cls := findClass_of_methodNamed B.named
  have hlocks := B.notSynchronized
  have hin : meth.name = "<init>" := (name_of_methodNamed B.named B.method).1
  subst hsz
  have hD := hD0.self (sz := s.heap.size)
  generalize hAe : va_A [(q, .inr (ci, []))] s.heap.size = A at hD hX ⊢
  have hA : ∀ q : Nat, s.heap.size ≤ q → A q := fun q h => by rw [← hAe]; exact Or.inr h
  have hS : va_S A s.heap s.heap [] := va_S.rf
  have hP : va_P (dC, dI) vwCl [(q, .inr (ci, []))] s.heap := hP
  have hl := lv_entry ([.ref q]) (n := 1) (Nat.le_of_ble_eq_true rfl)
  rw [lg_entry_eq]
  generalize (lg_sl ([.ref q]) ++ List.replicate (1 - (lg_sl ([.ref q])).length) Slot.unset).toArray = ls at hl ⊢
  have hl : lv_has ls 1 [(0, .ref q)] := hl
  refine lv_aload_n hx hb dX7_init_0 rfl (lv_at hl 0 rfl) ?_
  refine W.objInit hx hb hown (hts (.methodLink RX7 1 objectInit) (List.mem_of_getElem? (i := 1) rfl)) (hts (.instanceMethod objectInit) (List.mem_of_getElem? (i := 2) rfl)) (hts (.code objectInit ⟨#[0xb1]⟩ 1 none) (List.mem_of_getElem? (i := 3) rfl)) rfl (by rw [hml]; exact hl.1) rfl dX7_init_1 (Nat.le_of_ble_eq_true rfl) (Nat.le_of_ble_eq_true rfl) ?_
  refine W.eq (g2 := F0 m 4 ls []) rfl ?_
  have hP9 := hP.sub (ws' := [(q, .inr (ci, []))]) [0] rfl
  exact W.vret hx hb hr (fun t ht hW => ⟨⟨(), rfl, trivial, by rw [ht]; exact hP9, va_K.moved hW.alike hK, hD⟩, hS.F ht⟩) hS.2.2 dX7_init_4

