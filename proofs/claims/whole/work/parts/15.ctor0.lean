/-! ===== constructors ===== -/
theorem gm_cE {D : va_G} {cl : List vw_C} {tys : List (ClassId × FieldType)} {s : State} {c c' : ClassId} {ty : FieldType} (hK : va_K D cl tys s) (i j : Nat) (h1 : tys[i]? = some (c, ty)) (h2 : tys[j]? = some (c', ty)) (hn : ∀ C, ty ≠ .object C) : c = c' := by
  have r1 := (hK.2 i _ h1).2
  have r2 := (hK.2 j _ h2).2
  cases ty with
  | object C => exact absurd rfl (hn C)
  | _ => exact Option.some.inj (r1.symm.trans r2)
def gm_nestw : List Cond := [.methodLinkNest RX10 11 yX9_init "OnlyRhymes", .methodLinkNest RX10 31 yX6_init "OnlyRhymes", .methodLinkNest RX10 38 yX2_init "OnlyRhymes", .methodLinkNest RX10 45 yX1_init "OnlyRhymes", .methodLinkNest RX10 70 yX7_init "OnlyRhymes", .methodLinkNest RX10 73 yX4_init "OnlyRhymes", .methodLinkNest RX4 1 yX7_init "OnlyRhymes", .methodLinkNest RX10 76 yX3_init "OnlyRhymes", .methodLinkNest RX3 1 yX7_init "OnlyRhymes", .methodLinkNest RX10 79 yX8_init "OnlyRhymes", .methodLinkNest RX8 1 yX3_init "OnlyRhymes", .methodLinkNest RX10 82 yX5_init "OnlyRhymes", .methodLinkNest RX5 1 yX4_init "OnlyRhymes", .methodLinkNest RX10 85 yX0_init "OnlyRhymes", .methodLinkNest RX0 1 yX4_init "OnlyRhymes"]
def gm_castw : List Cond := [.castable RX4 RX7, .castable RX3 RX7, .castable RX8 RX7, .castable RX5 RX7, .castable RX0 RX7]
def gm_N : gm_Y := fun _ U _ => (∀ w ∈ gm_nestw, va_Nw w U) ∧ va_AO RX9 U ∧ va_AO RX7 U ∧ ∀ w ∈ gm_castw, va_Nw w U
theorem gm_N_ok : gm_Yok gm_N := by
  refine ⟨fun A u U H h q => ?_, fun _ _ _ _ _ q => q, fun _ _ _ _ _ q => q⟩
  have hv : u.vm.Alike U.vm := by
    rcases h with h | h
    · rw [h]; exact Vm.Alike.refl U.vm
    · exact h.alike
  refine ⟨fun w hw => ?_, q.2.1.moved hv, q.2.2.1.moved hv, fun w hw => ?_⟩
  · have hq := q.1 w hw
    simp only [gm_nestw, List.mem_cons, List.not_mem_nil, or_false] at hw
    rcases h with h | h
    · rcases hw with rfl | rfl | rfl | rfl | rfl | rfl | rfl | rfl | rfl | rfl | rfl | rfl | rfl | rfl | rfl <;> exact va_Nw.same rfl h hq
    · rcases hw with rfl | rfl | rfl | rfl | rfl | rfl | rfl | rfl | rfl | rfl | rfl | rfl | rfl | rfl | rfl <;> exact va_Nw.warmM h hq
  · have hq := q.2.2.2 w hw
    simp only [gm_castw, List.mem_cons, List.not_mem_nil, or_false] at hw
    rcases h with h | h
    · rcases hw with rfl | rfl | rfl | rfl | rfl <;> exact va_Nw.same rfl h hq
    · rcases hw with rfl | rfl | rfl | rfl | rfl <;> exact va_Nw.warmC h hq
def gm_XI (tP : Nat) : gm_Y := fun A U H => gm_XP tP A U H ∧ gm_N A U H
theorem gm_XI_ok (tP : Nat) : gm_Yok (gm_XI tP) := ⟨fun A u U H h q => ⟨(gm_XP_ok tP).1 A u U H h q.1, gm_N_ok.1 A u U H h q.2⟩, fun A U H H1 h q => ⟨(gm_XP_ok tP).2.1 A U H H1 h q.1, q.2⟩, fun A B U H h q => ⟨(gm_XP_ok tP).2.2 A B U H h q.1, q.2⟩⟩

