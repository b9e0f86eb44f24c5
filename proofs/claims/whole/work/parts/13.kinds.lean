/-! X7_chimes -/
abbrev wX7_chimes (cI : ClassId) (q_a1 q_a1_ending q_a1_meaning q_a1_cost q_a1_alikeTo q_a1_kind q_a1_want q_a1_saidAhead q_a1_heardWord q_a1_heardAnswer : Nat) (m_a1_words : Int32) (m_a1_people : Int32) (m_a1_said : Int32) (m_a1_undos : Int32) (m_a1_heard : Int32) (m_a1_ending : Nat → Int32) : va_W := [(q_a1, .inr (9, [.ref q_a1_ending, .ref q_a1_meaning, .ref q_a1_cost, .int m_a1_words, .ref q_a1_alikeTo, .ref q_a1_kind, .ref q_a1_want, .int m_a1_people, .int m_a1_said, .ref q_a1_saidAhead, .int m_a1_undos, .ref q_a1_heardWord, .ref q_a1_heardAnswer, .int m_a1_heard])), (q_a1_ending, .inl (cI, 10, .inl m_a1_ending))]
abbrev rX7_chimes : Room := { frames := 1, cells := 0, slots := 0, locals := 23 }
def fX7_chimes (N : Nat) (m_a1_words : Int32) (m_a1_ending : Nat → Int32) (x2 : Int32) (x3 : Int32) : Option (Int32) := gm_chk x3 10 (gm_bind (fX9_wordsEnding N m_a1_words m_a1_ending (((1 : Int32) <<< ((m_a1_ending (Int32.toNatClampNeg x3)) &&& 31)))) (fun o2 => some ((o2 &&& (((1 : Int32) <<< (x3 &&& 31)) ^^^ (-1))))))
set_option maxRecDepth 20000 in
theorem inX7_chimes_X9 : ∀ w ∈ u_ws RX9 TX9 14, w ∈ wsX7_chimes := fun w h => by
  obtain ⟨k, hk, rfl⟩ := List.mem_map.mp h
  have hk2 := List.mem_range.mp hk
  exact List.mem_of_getElem? (i := 9 + k) (by rcases (show k = 0 ∨ k = 1 ∨ k = 2 ∨ k = 3 ∨ k = 4 ∨ k = 5 ∨ k = 6 ∨ k = 7 ∨ k = 8 ∨ k = 9 ∨ k = 10 ∨ k = 11 ∨ k = 12 ∨ k = 13 by omega) with rfl | rfl | rfl | rfl | rfl | rfl | rfl | rfl | rfl | rfl | rfl | rfl | rfl | rfl <;> rfl)
set_option maxRecDepth 100000 in
set_option maxHeartbeats 4000000 in
theorem mX7_chimes (l : Launch) (dC : Nat → ClassId) (dI : Nat → Nat → Nat) (cI : ClassId) (q_a1 q_a1_ending q_a1_meaning q_a1_cost q_a1_alikeTo q_a1_kind q_a1_want q_a1_saidAhead q_a1_heardWord q_a1_heardAnswer q : Nat) (m_a1_words : Int32) (m_a1_people : Int32) (m_a1_said : Int32) (m_a1_undos : Int32) (m_a1_heard : Int32) (m_a1_ending : Nat → Int32) (x2 : Int32) (x3 : Int32)  {N : Nat} {out : Int32} (h : fX7_chimes N m_a1_words m_a1_ending x2 x3 = some out) : gm_Met l yX7_chimes wsX7_chimes rX7_chimes (dC, dI) [(cI, .int)] gm_T [.ref q, .ref q_a1, .int x2, .int x3] (wX7_chimes cI q_a1 q_a1_ending q_a1_meaning q_a1_cost q_a1_alikeTo q_a1_kind q_a1_want q_a1_saidAhead q_a1_heardWord q_a1_heardAnswer m_a1_words m_a1_people m_a1_said m_a1_undos m_a1_heard m_a1_ending) (some (.int out)) (wX7_chimes cI q_a1 q_a1_ending q_a1_meaning q_a1_cost q_a1_alikeTo q_a1_kind q_a1_want q_a1_saidAhead q_a1_heardWord q_a1_heardAnswer m_a1_words m_a1_people m_a1_said m_a1_undos m_a1_heard m_a1_ending) := by
  refine gm_ofW (cc := cX7_chimes) (maxL := 4) (ret := (some .int)) (by decide +kernel) rfl (Nat.le_of_ble_eq_true rfl) ?_
  intro p e s m below meth c A C0 hH ls hl
  generalize ([.ref q, .ref q_a1, .int x2, .int x3] : List Value).toArray = args at C0 ⊢
  have hl : lv_has ls 4 [(0, .ref q), (1, .ref q_a1), (2, .int x2), (3, .int x3)] := hl
  generalize s.heap = H at hH ⊢
  generalize ([] : List Loc) = locs at hH ⊢
  obtain ⟨hx, hb, hml, hr, hown, hts, hA, hK, hX, hlocks⟩ := id C0
  unfold fX7_chimes at h
  refine lv_aload_n hx hb dX7_chimes_0 rfl (lv_at hl 1 rfl) ?_
  refine lv_iconst (v := 1) hx hb dX7_chimes_1 (by decide) ?_
  refine lv_aload_n hx hb dX7_chimes_2 rfl (lv_at hl 1 rfl) ?_
  refine gm_get (ci := 9) C0 hH inX7_chimes_X9 0 0 1 rfl rfl (by decide) rfl rfl dX7_chimes_3 ?_
  refine lv_iload_n hx hb dX7_chimes_6 rfl (lv_at hl 3 rfl) ?_
  obtain ⟨hi1, h⟩ := gm_chk_e h
  refine gm_iald C0 hH hi1 1 0 rfl rfl dX7_chimes_7 ?_
  refine lv_ishl hx hb dX7_chimes_8 ?_
  obtain ⟨o2, ho2, h⟩ := gm_bind_e h
  refine gm_callV (As := [.int ((1 : Int32) <<< ((m_a1_ending (Int32.toNatClampNeg x3)) &&& 31))]) (rest := []) (n := 1) (ci := 9) (q0 := 0) C0 hH (mX9_wordsEnding l dC dI cI q_a1 q_a1_ending q_a1_meaning q_a1_cost q_a1_alikeTo q_a1_kind q_a1_want q_a1_saidAhead q_a1_heardWord q_a1_heardAnswer m_a1_words m_a1_people m_a1_said m_a1_undos m_a1_heard m_a1_ending (((1 : Int32) <<< ((m_a1_ending (Int32.toNatClampNeg x3)) &&& 31)))   ho2) gX7_chimes_X9_wordsEnding rfl (by decide +kernel) ⟨rfl, rfl, Nat.le_of_ble_eq_true rfl, Nat.le_of_ble_eq_true rfl⟩ gm_T_ok (fun _ => trivial) [0, 1] rfl rfl rfl [0] rfl rfl rfl rfl hl.1 rfl (Nat.le_of_ble_eq_true rfl) dX7_chimes_9 ⟨Nat.zero_le _, Nat.zero_le _⟩ (fun H locs hH => ?_)
  have hH : gm_H (dC, dI) A s (wX7_chimes cI q_a1 q_a1_ending q_a1_meaning q_a1_cost q_a1_alikeTo q_a1_kind q_a1_want q_a1_saidAhead q_a1_heardWord q_a1_heardAnswer m_a1_words m_a1_people m_a1_said m_a1_undos m_a1_heard m_a1_ending) H locs := hH
  refine lv_iconst (v := 1) hx hb dX7_chimes_12 (by decide) ?_
  refine lv_iload_n hx hb dX7_chimes_13 rfl (lv_at hl 3 rfl) ?_
  refine lv_ishl hx hb dX7_chimes_14 ?_
  refine lv_iconst (v := (-1)) hx hb dX7_chimes_15 (by decide) ?_
  refine lv_ixor hx hb dX7_chimes_16 ?_
  refine lv_iand hx hb dX7_chimes_17 ?_
  obtain rfl := Option.some.inj h
  exact gm_iret C0 hH dX7_chimes_18

/-! X4_chimes -/
abbrev wX4_chimes (cI : ClassId) (ci : Nat) (q q_a1 q_a1_ending q_a1_alikeTo q_a1_meaning q_a1_cost q_a1_kind q_a1_want q_a1_saidAhead q_a1_heardWord q_a1_heardAnswer : Nat) (m_a1_words : Int32) (m_a1_people : Int32) (m_a1_said : Int32) (m_a1_undos : Int32) (m_a1_heard : Int32) (m_a1_ending : Nat → Int32) (m_a1_alikeTo : Nat → Int32) : va_W := [(q, .inr (ci, [])), (q_a1, .inr (9, [.ref q_a1_ending, .ref q_a1_meaning, .ref q_a1_cost, .int m_a1_words, .ref q_a1_alikeTo, .ref q_a1_kind, .ref q_a1_want, .int m_a1_people, .int m_a1_said, .ref q_a1_saidAhead, .int m_a1_undos, .ref q_a1_heardWord, .ref q_a1_heardAnswer, .int m_a1_heard])), (q_a1_ending, .inl (cI, 10, .inl m_a1_ending)), (q_a1_alikeTo, .inl (cI, 8, .inl m_a1_alikeTo))]
abbrev rX4_chimes : Room := { frames := 2, cells := 0, slots := 0, locals := 46 }
def fX4_chimes (N : Nat) (m_a1_words : Int32) (m_a1_ending : Nat → Int32) (m_a1_alikeTo : Nat → Int32) (x2 : Int32) (x3 : Int32) : Option (Int32) := gm_bind (fX7_chimes N m_a1_words m_a1_ending x2 x3) (fun o1 => gm_chk x3 10 (gm_chk ((m_a1_ending (Int32.toNatClampNeg x3))) 8 (gm_bind (fX9_wordsEnding N m_a1_words m_a1_ending ((m_a1_alikeTo (Int32.toNatClampNeg ((m_a1_ending (Int32.toNatClampNeg x3))))))) (fun o4 => some ((o1 ||| o4))))))
set_option maxRecDepth 20000 in
theorem inX4_chimes_X9 : ∀ w ∈ u_ws RX9 TX9 14, w ∈ wsX4_chimes := fun w h => by
  obtain ⟨k, hk, rfl⟩ := List.mem_map.mp h
  have hk2 := List.mem_range.mp hk
  exact List.mem_of_getElem? (i := 18 + k) (by rcases (show k = 0 ∨ k = 1 ∨ k = 2 ∨ k = 3 ∨ k = 4 ∨ k = 5 ∨ k = 6 ∨ k = 7 ∨ k = 8 ∨ k = 9 ∨ k = 10 ∨ k = 11 ∨ k = 12 ∨ k = 13 by omega) with rfl | rfl | rfl | rfl | rfl | rfl | rfl | rfl | rfl | rfl | rfl | rfl | rfl | rfl <;> rfl)
set_option maxRecDepth 100000 in
set_option maxHeartbeats 4000000 in
theorem mX4_chimes (l : Launch) (dC : Nat → ClassId) (dI : Nat → Nat → Nat) (cI : ClassId) (q q_a1 q_a1_ending q_a1_alikeTo q_a1_meaning q_a1_cost q_a1_kind q_a1_want q_a1_saidAhead q_a1_heardWord q_a1_heardAnswer : Nat) (m_a1_words : Int32) (m_a1_people : Int32) (m_a1_said : Int32) (m_a1_undos : Int32) (m_a1_heard : Int32) (m_a1_ending : Nat → Int32) (m_a1_alikeTo : Nat → Int32) (x2 : Int32) (x3 : Int32) (ci : Nat) {Cn : String} {Tn : u_T} {Nn : Nat} (hci : vwCl[ci]? = some (Cn, Tn, Nn))  {N : Nat} {out : Int32} (h : fX4_chimes N m_a1_words m_a1_ending m_a1_alikeTo x2 x3 = some out) : gm_Met l yX4_chimes wsX4_chimes rX4_chimes (dC, dI) [(cI, .int)] gm_T [.ref q, .ref q_a1, .int x2, .int x3] (wX4_chimes cI ci q q_a1 q_a1_ending q_a1_alikeTo q_a1_meaning q_a1_cost q_a1_kind q_a1_want q_a1_saidAhead q_a1_heardWord q_a1_heardAnswer m_a1_words m_a1_people m_a1_said m_a1_undos m_a1_heard m_a1_ending m_a1_alikeTo) (some (.int out)) (wX4_chimes cI ci q q_a1 q_a1_ending q_a1_alikeTo q_a1_meaning q_a1_cost q_a1_kind q_a1_want q_a1_saidAhead q_a1_heardWord q_a1_heardAnswer m_a1_words m_a1_people m_a1_said m_a1_undos m_a1_heard m_a1_ending m_a1_alikeTo) := by
  refine gm_ofW (cc := cX4_chimes) (maxL := 4) (ret := (some .int)) (by decide +kernel) rfl (Nat.le_of_ble_eq_true rfl) ?_
  intro p e s m below meth c A C0 hH ls hl
  generalize ([.ref q, .ref q_a1, .int x2, .int x3] : List Value).toArray = args at C0 ⊢
  have hl : lv_has ls 4 [(0, .ref q), (1, .ref q_a1), (2, .int x2), (3, .int x3)] := hl
  generalize s.heap = H at hH ⊢
  generalize ([] : List Loc) = locs at hH ⊢
  obtain ⟨hx, hb, hml, hr, hown, hts, hA, hK, hX, hlocks⟩ := id C0
  unfold fX4_chimes at h
  refine lv_aload_n hx hb dX4_chimes_0 rfl (lv_at hl 0 rfl) ?_
  refine lv_aload_n hx hb dX4_chimes_1 rfl (lv_at hl 1 rfl) ?_
  refine lv_iload_n hx hb dX4_chimes_2 rfl (lv_at hl 2 rfl) ?_
  refine lv_iload_n hx hb dX4_chimes_3 rfl (lv_at hl 3 rfl) ?_
  obtain ⟨o1, ho1, h⟩ := gm_bind_e h
  refine gm_callU (As := [.ref q_a1, .int x2, .int x3]) (rest := []) (n := 3) (ci := ci) (q0 := 0) C0 hH (mX7_chimes l dC dI cI q_a1 q_a1_ending q_a1_meaning q_a1_cost q_a1_alikeTo q_a1_kind q_a1_want q_a1_saidAhead q_a1_heardWord q_a1_heardAnswer q m_a1_words m_a1_people m_a1_said m_a1_undos m_a1_heard m_a1_ending x2 x3   ho1) gX4_chimes_X7_chimes_s7 rfl (by decide +kernel) ⟨rfl, rfl, Nat.le_of_ble_eq_true rfl, Nat.le_of_ble_eq_true rfl⟩ gm_T_ok (fun _ => trivial) [1, 2] rfl rfl rfl [0] rfl rfl hci rfl hl.1 rfl (Nat.le_of_ble_eq_true rfl) dX4_chimes_4 ⟨Nat.zero_le _, Nat.zero_le _⟩ (fun H locs hH => ?_)
  have hH : gm_H (dC, dI) A s (wX4_chimes cI ci q q_a1 q_a1_ending q_a1_alikeTo q_a1_meaning q_a1_cost q_a1_kind q_a1_want q_a1_saidAhead q_a1_heardWord q_a1_heardAnswer m_a1_words m_a1_people m_a1_said m_a1_undos m_a1_heard m_a1_ending m_a1_alikeTo) H locs := hH
  refine lv_aload_n hx hb dX4_chimes_7 rfl (lv_at hl 1 rfl) ?_
  refine lv_aload_n hx hb dX4_chimes_8 rfl (lv_at hl 1 rfl) ?_
  refine gm_get (ci := 9) C0 hH inX4_chimes_X9 1 4 1 rfl rfl (by decide) rfl rfl dX4_chimes_9 ?_
  refine lv_aload_n hx hb dX4_chimes_12 rfl (lv_at hl 1 rfl) ?_
  refine gm_get (ci := 9) C0 hH inX4_chimes_X9 1 0 2 rfl rfl (by decide) rfl rfl dX4_chimes_13 ?_
  refine lv_iload_n hx hb dX4_chimes_16 rfl (lv_at hl 3 rfl) ?_
  obtain ⟨hi2, h⟩ := gm_chk_e h
  refine gm_iald C0 hH hi2 2 0 rfl rfl dX4_chimes_17 ?_
  obtain ⟨hi3, h⟩ := gm_chk_e h
  refine gm_iald C0 hH hi3 3 0 rfl rfl dX4_chimes_18 ?_
  obtain ⟨o4, ho4, h⟩ := gm_bind_e h
  refine gm_callV (As := [.int (m_a1_alikeTo (Int32.toNatClampNeg ((m_a1_ending (Int32.toNatClampNeg x3)))))]) (rest := [.int o1]) (n := 1) (ci := 9) (q0 := 1) C0 hH (mX9_wordsEnding l dC dI cI q_a1 q_a1_ending q_a1_meaning q_a1_cost q_a1_alikeTo q_a1_kind q_a1_want q_a1_saidAhead q_a1_heardWord q_a1_heardAnswer m_a1_words m_a1_people m_a1_said m_a1_undos m_a1_heard m_a1_ending ((m_a1_alikeTo (Int32.toNatClampNeg ((m_a1_ending (Int32.toNatClampNeg x3))))))   ho4) gX4_chimes_X9_wordsEnding rfl (by decide +kernel) ⟨rfl, rfl, Nat.le_of_ble_eq_true rfl, Nat.le_of_ble_eq_true rfl⟩ gm_T_ok (fun _ => trivial) [1, 2] rfl rfl rfl [0] rfl rfl rfl rfl hl.1 rfl (Nat.le_of_ble_eq_true rfl) dX4_chimes_19 ⟨Nat.zero_le _, Nat.zero_le _⟩ (fun H locs hH => ?_)
  have hH : gm_H (dC, dI) A s (wX4_chimes cI ci q q_a1 q_a1_ending q_a1_alikeTo q_a1_meaning q_a1_cost q_a1_kind q_a1_want q_a1_saidAhead q_a1_heardWord q_a1_heardAnswer m_a1_words m_a1_people m_a1_said m_a1_undos m_a1_heard m_a1_ending m_a1_alikeTo) H locs := hH
  refine lv_ior hx hb dX4_chimes_22 ?_
  obtain rfl := Option.some.inj h
  exact gm_iret C0 hH dX4_chimes_23

/-! X3_chimes -/
abbrev wX3_chimes (cI : ClassId) (ci : Nat) (q q_a1 q_a1_ending q_a1_meaning q_a1_cost q_a1_alikeTo q_a1_kind q_a1_want q_a1_saidAhead q_a1_heardWord q_a1_heardAnswer : Nat) (m_a1_words : Int32) (m_a1_people : Int32) (m_a1_said : Int32) (m_a1_undos : Int32) (m_a1_heard : Int32) (m_a1_ending : Nat → Int32) : va_W := [(q, .inr (ci, [])), (q_a1, .inr (9, [.ref q_a1_ending, .ref q_a1_meaning, .ref q_a1_cost, .int m_a1_words, .ref q_a1_alikeTo, .ref q_a1_kind, .ref q_a1_want, .int m_a1_people, .int m_a1_said, .ref q_a1_saidAhead, .int m_a1_undos, .ref q_a1_heardWord, .ref q_a1_heardAnswer, .int m_a1_heard])), (q_a1_ending, .inl (cI, 10, .inl m_a1_ending))]
abbrev rX3_chimes : Room := { frames := 2, cells := 0, slots := 0, locals := 46 }
def fX3_chimes (N : Nat) (m_a1_words : Int32) (m_a1_ending : Nat → Int32) (x2 : Int32) (x3 : Int32) : Option (Int32) := gm_bind (fX7_chimes N m_a1_words m_a1_ending x2 x3) (fun o1 => some ((o1 ||| ((1 : Int32) <<< (x3 &&& 31)))))
set_option maxRecDepth 20000 in
theorem inX3_chimes_X9 : ∀ w ∈ u_ws RX9 TX9 14, w ∈ wsX3_chimes := fun w h => by
  obtain ⟨k, hk, rfl⟩ := List.mem_map.mp h
  have hk2 := List.mem_range.mp hk
  exact List.mem_of_getElem? (i := 15 + k) (by rcases (show k = 0 ∨ k = 1 ∨ k = 2 ∨ k = 3 ∨ k = 4 ∨ k = 5 ∨ k = 6 ∨ k = 7 ∨ k = 8 ∨ k = 9 ∨ k = 10 ∨ k = 11 ∨ k = 12 ∨ k = 13 by omega) with rfl | rfl | rfl | rfl | rfl | rfl | rfl | rfl | rfl | rfl | rfl | rfl | rfl | rfl <;> rfl)
set_option maxRecDepth 100000 in
set_option maxHeartbeats 4000000 in
theorem mX3_chimes (l : Launch) (dC : Nat → ClassId) (dI : Nat → Nat → Nat) (cI : ClassId) (q q_a1 q_a1_ending q_a1_meaning q_a1_cost q_a1_alikeTo q_a1_kind q_a1_want q_a1_saidAhead q_a1_heardWord q_a1_heardAnswer : Nat) (m_a1_words : Int32) (m_a1_people : Int32) (m_a1_said : Int32) (m_a1_undos : Int32) (m_a1_heard : Int32) (m_a1_ending : Nat → Int32) (x2 : Int32) (x3 : Int32) (ci : Nat) {Cn : String} {Tn : u_T} {Nn : Nat} (hci : vwCl[ci]? = some (Cn, Tn, Nn))  {N : Nat} {out : Int32} (h : fX3_chimes N m_a1_words m_a1_ending x2 x3 = some out) : gm_Met l yX3_chimes wsX3_chimes rX3_chimes (dC, dI) [(cI, .int)] gm_T [.ref q, .ref q_a1, .int x2, .int x3] (wX3_chimes cI ci q q_a1 q_a1_ending q_a1_meaning q_a1_cost q_a1_alikeTo q_a1_kind q_a1_want q_a1_saidAhead q_a1_heardWord q_a1_heardAnswer m_a1_words m_a1_people m_a1_said m_a1_undos m_a1_heard m_a1_ending) (some (.int out)) (wX3_chimes cI ci q q_a1 q_a1_ending q_a1_meaning q_a1_cost q_a1_alikeTo q_a1_kind q_a1_want q_a1_saidAhead q_a1_heardWord q_a1_heardAnswer m_a1_words m_a1_people m_a1_said m_a1_undos m_a1_heard m_a1_ending) := by
  refine gm_ofW (cc := cX3_chimes) (maxL := 4) (ret := (some .int)) (by decide +kernel) rfl (Nat.le_of_ble_eq_true rfl) ?_
  intro p e s m below meth c A C0 hH ls hl
  generalize ([.ref q, .ref q_a1, .int x2, .int x3] : List Value).toArray = args at C0 ⊢
  have hl : lv_has ls 4 [(0, .ref q), (1, .ref q_a1), (2, .int x2), (3, .int x3)] := hl
  generalize s.heap = H at hH ⊢
  generalize ([] : List Loc) = locs at hH ⊢
  obtain ⟨hx, hb, hml, hr, hown, hts, hA, hK, hX, hlocks⟩ := id C0
  unfold fX3_chimes at h
  refine lv_aload_n hx hb dX3_chimes_0 rfl (lv_at hl 0 rfl) ?_
  refine lv_aload_n hx hb dX3_chimes_1 rfl (lv_at hl 1 rfl) ?_
  refine lv_iload_n hx hb dX3_chimes_2 rfl (lv_at hl 2 rfl) ?_
  refine lv_iload_n hx hb dX3_chimes_3 rfl (lv_at hl 3 rfl) ?_
  obtain ⟨o1, ho1, h⟩ := gm_bind_e h
  refine gm_callU (As := [.ref q_a1, .int x2, .int x3]) (rest := []) (n := 3) (ci := ci) (q0 := 0) C0 hH (mX7_chimes l dC dI cI q_a1 q_a1_ending q_a1_meaning q_a1_cost q_a1_alikeTo q_a1_kind q_a1_want q_a1_saidAhead q_a1_heardWord q_a1_heardAnswer q m_a1_words m_a1_people m_a1_said m_a1_undos m_a1_heard m_a1_ending x2 x3   ho1) gX3_chimes_X7_chimes_s7 rfl (by decide +kernel) ⟨rfl, rfl, Nat.le_of_ble_eq_true rfl, Nat.le_of_ble_eq_true rfl⟩ gm_T_ok (fun _ => trivial) [1, 2] rfl rfl rfl [0] rfl rfl hci rfl hl.1 rfl (Nat.le_of_ble_eq_true rfl) dX3_chimes_4 ⟨Nat.zero_le _, Nat.zero_le _⟩ (fun H locs hH => ?_)
  have hH : gm_H (dC, dI) A s (wX3_chimes cI ci q q_a1 q_a1_ending q_a1_meaning q_a1_cost q_a1_alikeTo q_a1_kind q_a1_want q_a1_saidAhead q_a1_heardWord q_a1_heardAnswer m_a1_words m_a1_people m_a1_said m_a1_undos m_a1_heard m_a1_ending) H locs := hH
  refine lv_iconst (v := 1) hx hb dX3_chimes_7 (by decide) ?_
  refine lv_iload_n hx hb dX3_chimes_8 rfl (lv_at hl 3 rfl) ?_
  refine lv_ishl hx hb dX3_chimes_9 ?_
  refine lv_ior hx hb dX3_chimes_10 ?_
  obtain rfl := Option.some.inj h
  exact gm_iret C0 hH dX3_chimes_11

/-! X8_chimes -/
abbrev wX8_chimes (cI : ClassId) (ci : Nat) (q q_a1 q_a1_ending q_a1_meaning q_a1_cost q_a1_alikeTo q_a1_kind q_a1_want q_a1_saidAhead q_a1_heardWord q_a1_heardAnswer : Nat) (m_a1_words : Int32) (m_a1_people : Int32) (m_a1_said : Int32) (m_a1_undos : Int32) (m_a1_heard : Int32) (m_a1_ending : Nat → Int32) : va_W := [(q, .inr (ci, [])), (q_a1, .inr (9, [.ref q_a1_ending, .ref q_a1_meaning, .ref q_a1_cost, .int m_a1_words, .ref q_a1_alikeTo, .ref q_a1_kind, .ref q_a1_want, .int m_a1_people, .int m_a1_said, .ref q_a1_saidAhead, .int m_a1_undos, .ref q_a1_heardWord, .ref q_a1_heardAnswer, .int m_a1_heard])), (q_a1_ending, .inl (cI, 10, .inl m_a1_ending))]
abbrev rX8_chimes : Room := { frames := 3, cells := 0, slots := 0, locals := 69 }
def fX8_chimes (N : Nat) (m_a1_words : Int32) (m_a1_ending : Nat → Int32) (x2 : Int32) (x3 : Int32) : Option (Int32) := gm_let ((((1 : Int32) <<< (x3 &&& 31)) - 1) : Int32) (fun (v1 : Int32) => gm_bind (fX3_chimes N m_a1_words m_a1_ending x2 x3) (fun o2 => some ((o2 &&& (v1 ^^^ (-1))))))
set_option maxRecDepth 20000 in
theorem inX8_chimes_X9 : ∀ w ∈ u_ws RX9 TX9 14, w ∈ wsX8_chimes := fun w h => by
  obtain ⟨k, hk, rfl⟩ := List.mem_map.mp h
  have hk2 := List.mem_range.mp hk
  exact List.mem_of_getElem? (i := 21 + k) (by rcases (show k = 0 ∨ k = 1 ∨ k = 2 ∨ k = 3 ∨ k = 4 ∨ k = 5 ∨ k = 6 ∨ k = 7 ∨ k = 8 ∨ k = 9 ∨ k = 10 ∨ k = 11 ∨ k = 12 ∨ k = 13 by omega) with rfl | rfl | rfl | rfl | rfl | rfl | rfl | rfl | rfl | rfl | rfl | rfl | rfl | rfl <;> rfl)
set_option maxRecDepth 100000 in
set_option maxHeartbeats 4000000 in
theorem mX8_chimes (l : Launch) (dC : Nat → ClassId) (dI : Nat → Nat → Nat) (cI : ClassId) (q q_a1 q_a1_ending q_a1_meaning q_a1_cost q_a1_alikeTo q_a1_kind q_a1_want q_a1_saidAhead q_a1_heardWord q_a1_heardAnswer : Nat) (m_a1_words : Int32) (m_a1_people : Int32) (m_a1_said : Int32) (m_a1_undos : Int32) (m_a1_heard : Int32) (m_a1_ending : Nat → Int32) (x2 : Int32) (x3 : Int32) (ci : Nat) {Cn : String} {Tn : u_T} {Nn : Nat} (hci : vwCl[ci]? = some (Cn, Tn, Nn))  {N : Nat} {out : Int32} (h : fX8_chimes N m_a1_words m_a1_ending x2 x3 = some out) : gm_Met l yX8_chimes wsX8_chimes rX8_chimes (dC, dI) [(cI, .int)] gm_T [.ref q, .ref q_a1, .int x2, .int x3] (wX8_chimes cI ci q q_a1 q_a1_ending q_a1_meaning q_a1_cost q_a1_alikeTo q_a1_kind q_a1_want q_a1_saidAhead q_a1_heardWord q_a1_heardAnswer m_a1_words m_a1_people m_a1_said m_a1_undos m_a1_heard m_a1_ending) (some (.int out)) (wX8_chimes cI ci q q_a1 q_a1_ending q_a1_meaning q_a1_cost q_a1_alikeTo q_a1_kind q_a1_want q_a1_saidAhead q_a1_heardWord q_a1_heardAnswer m_a1_words m_a1_people m_a1_said m_a1_undos m_a1_heard m_a1_ending) := by
  refine gm_ofW (cc := cX8_chimes) (maxL := 5) (ret := (some .int)) (by decide +kernel) rfl (Nat.le_of_ble_eq_true rfl) ?_
  intro p e s m below meth c A C0 hH ls hl
  generalize ([.ref q, .ref q_a1, .int x2, .int x3] : List Value).toArray = args at C0 ⊢
  have hl : lv_has ls 5 [(0, .ref q), (1, .ref q_a1), (2, .int x2), (3, .int x3)] := hl
  generalize s.heap = H at hH ⊢
  generalize ([] : List Loc) = locs at hH ⊢
  obtain ⟨hx, hb, hml, hr, hown, hts, hA, hK, hX, hlocks⟩ := id C0
  unfold fX8_chimes at h
  refine lv_iconst (v := 1) hx hb dX8_chimes_0 (by decide) ?_
  refine lv_iload_n hx hb dX8_chimes_1 rfl (lv_at hl 3 rfl) ?_
  refine lv_ishl hx hb dX8_chimes_2 ?_
  refine lv_iconst (v := 1) hx hb dX8_chimes_3 (by decide) ?_
  refine lv_isub hx hb dX8_chimes_4 ?_
  refine lv_topi (fun v1 ev1 => ?_)
  replace h := gm_let_e ev1 h
  refine lv_istore (lv' := [(4, .int v1), (0, .ref q), (1, .ref q_a1), (2, .int x2), (3, .int x3)]) hx hb dX8_chimes_5 hl (by decide) rfl (fun ls hl => ?_)
  refine lv_aload_n hx hb dX8_chimes_7 rfl (lv_at hl 1 rfl) ?_
  refine lv_aload_n hx hb dX8_chimes_8 rfl (lv_at hl 2 rfl) ?_
  refine lv_iload_n hx hb dX8_chimes_9 rfl (lv_at hl 3 rfl) ?_
  refine lv_iload_n hx hb dX8_chimes_10 rfl (lv_at hl 4 rfl) ?_
  obtain ⟨o2, ho2, h⟩ := gm_bind_e h
  refine gm_callU (As := [.ref q_a1, .int x2, .int x3]) (rest := []) (n := 3) (ci := ci) (q0 := 0) C0 hH (mX3_chimes l dC dI cI q q_a1 q_a1_ending q_a1_meaning q_a1_cost q_a1_alikeTo q_a1_kind q_a1_want q_a1_saidAhead q_a1_heardWord q_a1_heardAnswer m_a1_words m_a1_people m_a1_said m_a1_undos m_a1_heard m_a1_ending x2 x3 ci hci   ho2) gX8_chimes_X3_chimes_s7 rfl (by decide +kernel) ⟨rfl, rfl, Nat.le_of_ble_eq_true rfl, Nat.le_of_ble_eq_true rfl⟩ gm_T_ok (fun _ => trivial) [0, 1, 2] rfl rfl rfl [0] rfl rfl hci rfl hl.1 rfl (Nat.le_of_ble_eq_true rfl) dX8_chimes_11 ⟨Nat.zero_le _, Nat.zero_le _⟩ (fun H locs hH => ?_)
  have hH : gm_H (dC, dI) A s (wX8_chimes cI ci q q_a1 q_a1_ending q_a1_meaning q_a1_cost q_a1_alikeTo q_a1_kind q_a1_want q_a1_saidAhead q_a1_heardWord q_a1_heardAnswer m_a1_words m_a1_people m_a1_said m_a1_undos m_a1_heard m_a1_ending) H locs := hH
  refine lv_iload hx hb dX8_chimes_14 (lv_at hl 0 rfl) ?_
  refine lv_iconst (v := (-1)) hx hb dX8_chimes_16 (by decide) ?_
  refine lv_ixor hx hb dX8_chimes_17 ?_
  refine lv_iand hx hb dX8_chimes_18 ?_
  obtain rfl := Option.some.inj h
  exact gm_iret C0 hH dX8_chimes_19

/-! X5_chimes -/
abbrev wX5_chimes (cI : ClassId) (ci : Nat) (q q_a1 q_a1_ending q_a1_meaning q_a1_alikeTo q_a1_cost q_a1_kind q_a1_want q_a1_saidAhead q_a1_heardWord q_a1_heardAnswer : Nat) (m_a1_words : Int32) (m_a1_people : Int32) (m_a1_said : Int32) (m_a1_undos : Int32) (m_a1_heard : Int32) (m_a1_ending : Nat → Int32) (m_a1_meaning : Nat → Int32) (m_a1_alikeTo : Nat → Int32) : va_W := [(q, .inr (ci, [])), (q_a1, .inr (9, [.ref q_a1_ending, .ref q_a1_meaning, .ref q_a1_cost, .int m_a1_words, .ref q_a1_alikeTo, .ref q_a1_kind, .ref q_a1_want, .int m_a1_people, .int m_a1_said, .ref q_a1_saidAhead, .int m_a1_undos, .ref q_a1_heardWord, .ref q_a1_heardAnswer, .int m_a1_heard])), (q_a1_ending, .inl (cI, 10, .inl m_a1_ending)), (q_a1_meaning, .inl (cI, 10, .inl m_a1_meaning)), (q_a1_alikeTo, .inl (cI, 8, .inl m_a1_alikeTo))]
abbrev rX5_chimes : Room := { frames := 3, cells := 0, slots := 0, locals := 69 }
def fX5_chimes (N : Nat) (m_a1_words : Int32) (m_a1_ending : Nat → Int32) (m_a1_meaning : Nat → Int32) (m_a1_alikeTo : Nat → Int32) (x2 : Int32) (x3 : Int32) : Option (Int32) := gm_bind (fX4_chimes N m_a1_words m_a1_ending m_a1_alikeTo x2 x3) (fun o1 => gm_chk x3 10 (gm_bind (fX9_wordsMeaning N m_a1_words m_a1_meaning ((m_a1_meaning (Int32.toNatClampNeg x3)))) (fun o3 => some ((o1 &&& (o3 ^^^ (-1)))))))
set_option maxRecDepth 20000 in
theorem inX5_chimes_X9 : ∀ w ∈ u_ws RX9 TX9 14, w ∈ wsX5_chimes := fun w h => by
  obtain ⟨k, hk, rfl⟩ := List.mem_map.mp h
  have hk2 := List.mem_range.mp hk
  exact List.mem_of_getElem? (i := 30 + k) (by rcases (show k = 0 ∨ k = 1 ∨ k = 2 ∨ k = 3 ∨ k = 4 ∨ k = 5 ∨ k = 6 ∨ k = 7 ∨ k = 8 ∨ k = 9 ∨ k = 10 ∨ k = 11 ∨ k = 12 ∨ k = 13 by omega) with rfl | rfl | rfl | rfl | rfl | rfl | rfl | rfl | rfl | rfl | rfl | rfl | rfl | rfl <;> rfl)
set_option maxRecDepth 100000 in
set_option maxHeartbeats 4000000 in
theorem mX5_chimes (l : Launch) (dC : Nat → ClassId) (dI : Nat → Nat → Nat) (cI : ClassId) (q q_a1 q_a1_ending q_a1_meaning q_a1_alikeTo q_a1_cost q_a1_kind q_a1_want q_a1_saidAhead q_a1_heardWord q_a1_heardAnswer : Nat) (m_a1_words : Int32) (m_a1_people : Int32) (m_a1_said : Int32) (m_a1_undos : Int32) (m_a1_heard : Int32) (m_a1_ending : Nat → Int32) (m_a1_meaning : Nat → Int32) (m_a1_alikeTo : Nat → Int32) (x2 : Int32) (x3 : Int32) (ci : Nat) {Cn : String} {Tn : u_T} {Nn : Nat} (hci : vwCl[ci]? = some (Cn, Tn, Nn))  {N : Nat} {out : Int32} (h : fX5_chimes N m_a1_words m_a1_ending m_a1_meaning m_a1_alikeTo x2 x3 = some out) : gm_Met l yX5_chimes wsX5_chimes rX5_chimes (dC, dI) [(cI, .int)] gm_T [.ref q, .ref q_a1, .int x2, .int x3] (wX5_chimes cI ci q q_a1 q_a1_ending q_a1_meaning q_a1_alikeTo q_a1_cost q_a1_kind q_a1_want q_a1_saidAhead q_a1_heardWord q_a1_heardAnswer m_a1_words m_a1_people m_a1_said m_a1_undos m_a1_heard m_a1_ending m_a1_meaning m_a1_alikeTo) (some (.int out)) (wX5_chimes cI ci q q_a1 q_a1_ending q_a1_meaning q_a1_alikeTo q_a1_cost q_a1_kind q_a1_want q_a1_saidAhead q_a1_heardWord q_a1_heardAnswer m_a1_words m_a1_people m_a1_said m_a1_undos m_a1_heard m_a1_ending m_a1_meaning m_a1_alikeTo) := by
  refine gm_ofW (cc := cX5_chimes) (maxL := 4) (ret := (some .int)) (by decide +kernel) rfl (Nat.le_of_ble_eq_true rfl) ?_
  intro p e s m below meth c A C0 hH ls hl
  generalize ([.ref q, .ref q_a1, .int x2, .int x3] : List Value).toArray = args at C0 ⊢
  have hl : lv_has ls 4 [(0, .ref q), (1, .ref q_a1), (2, .int x2), (3, .int x3)] := hl
  generalize s.heap = H at hH ⊢
  generalize ([] : List Loc) = locs at hH ⊢
  obtain ⟨hx, hb, hml, hr, hown, hts, hA, hK, hX, hlocks⟩ := id C0
  unfold fX5_chimes at h
  refine lv_aload_n hx hb dX5_chimes_0 rfl (lv_at hl 0 rfl) ?_
  refine lv_aload_n hx hb dX5_chimes_1 rfl (lv_at hl 1 rfl) ?_
  refine lv_iload_n hx hb dX5_chimes_2 rfl (lv_at hl 2 rfl) ?_
  refine lv_iload_n hx hb dX5_chimes_3 rfl (lv_at hl 3 rfl) ?_
  obtain ⟨o1, ho1, h⟩ := gm_bind_e h
  refine gm_callU (As := [.ref q_a1, .int x2, .int x3]) (rest := []) (n := 3) (ci := ci) (q0 := 0) C0 hH (mX4_chimes l dC dI cI q q_a1 q_a1_ending q_a1_alikeTo q_a1_meaning q_a1_cost q_a1_kind q_a1_want q_a1_saidAhead q_a1_heardWord q_a1_heardAnswer m_a1_words m_a1_people m_a1_said m_a1_undos m_a1_heard m_a1_ending m_a1_alikeTo x2 x3 ci hci   ho1) gX5_chimes_X4_chimes_s7 rfl (by decide +kernel) ⟨rfl, rfl, Nat.le_of_ble_eq_true rfl, Nat.le_of_ble_eq_true rfl⟩ gm_T_ok (fun _ => trivial) [0, 1, 2, 4] rfl rfl rfl [0] rfl rfl hci rfl hl.1 rfl (Nat.le_of_ble_eq_true rfl) dX5_chimes_4 ⟨Nat.zero_le _, Nat.zero_le _⟩ (fun H locs hH => ?_)
  simp only [wX5_chimes, wX4_chimes, gm_sets, List.set_cons_succ, List.set_cons_zero] at hH
  have hH : gm_H (dC, dI) A s (wX5_chimes cI ci q q_a1 q_a1_ending q_a1_meaning q_a1_alikeTo q_a1_cost q_a1_kind q_a1_want q_a1_saidAhead q_a1_heardWord q_a1_heardAnswer m_a1_words m_a1_people m_a1_said m_a1_undos m_a1_heard m_a1_ending m_a1_meaning m_a1_alikeTo) H locs := hH
  refine lv_aload_n hx hb dX5_chimes_7 rfl (lv_at hl 1 rfl) ?_
  refine lv_aload_n hx hb dX5_chimes_8 rfl (lv_at hl 1 rfl) ?_
  refine gm_get (ci := 9) C0 hH inX5_chimes_X9 1 1 1 rfl rfl (by decide) rfl rfl dX5_chimes_9 ?_
  refine lv_iload_n hx hb dX5_chimes_12 rfl (lv_at hl 3 rfl) ?_
  obtain ⟨hi2, h⟩ := gm_chk_e h
  refine gm_iald C0 hH hi2 3 0 rfl rfl dX5_chimes_13 ?_
  obtain ⟨o3, ho3, h⟩ := gm_bind_e h
  refine gm_callV (As := [.int (m_a1_meaning (Int32.toNatClampNeg x3))]) (rest := [.int o1]) (n := 1) (ci := 9) (q0 := 1) C0 hH (mX9_wordsMeaning l dC dI cI q_a1 q_a1_meaning q_a1_ending q_a1_cost q_a1_alikeTo q_a1_kind q_a1_want q_a1_saidAhead q_a1_heardWord q_a1_heardAnswer m_a1_words m_a1_people m_a1_said m_a1_undos m_a1_heard m_a1_meaning ((m_a1_meaning (Int32.toNatClampNeg x3)))   ho3) gX5_chimes_X9_wordsMeaning rfl (by decide +kernel) ⟨rfl, rfl, Nat.le_of_ble_eq_true rfl, Nat.le_of_ble_eq_true rfl⟩ gm_T_ok (fun _ => trivial) [1, 3] rfl rfl rfl [0] rfl rfl rfl rfl hl.1 rfl (Nat.le_of_ble_eq_true rfl) dX5_chimes_14 ⟨Nat.zero_le _, Nat.zero_le _⟩ (fun H locs hH => ?_)
  have hH : gm_H (dC, dI) A s (wX5_chimes cI ci q q_a1 q_a1_ending q_a1_meaning q_a1_alikeTo q_a1_cost q_a1_kind q_a1_want q_a1_saidAhead q_a1_heardWord q_a1_heardAnswer m_a1_words m_a1_people m_a1_said m_a1_undos m_a1_heard m_a1_ending m_a1_meaning m_a1_alikeTo) H locs := hH
  refine lv_iconst (v := (-1)) hx hb dX5_chimes_17 (by decide) ?_
  refine lv_ixor hx hb dX5_chimes_18 ?_
  refine lv_iand hx hb dX5_chimes_19 ?_
  obtain rfl := Option.some.inj h
  exact gm_iret C0 hH dX5_chimes_20

/-! X0_chimes -/
abbrev wX0_chimes (cI : ClassId) (ci : Nat) (q q_a1 q_a1_ending q_a1_meaning q_a1_alikeTo q_a1_cost q_a1_kind q_a1_want q_a1_saidAhead q_a1_heardWord q_a1_heardAnswer : Nat) (m_a1_words : Int32) (m_a1_people : Int32) (m_a1_said : Int32) (m_a1_undos : Int32) (m_a1_heard : Int32) (m_a1_ending : Nat → Int32) (m_a1_meaning : Nat → Int32) (m_a1_alikeTo : Nat → Int32) : va_W := [(q, .inr (ci, [])), (q_a1, .inr (9, [.ref q_a1_ending, .ref q_a1_meaning, .ref q_a1_cost, .int m_a1_words, .ref q_a1_alikeTo, .ref q_a1_kind, .ref q_a1_want, .int m_a1_people, .int m_a1_said, .ref q_a1_saidAhead, .int m_a1_undos, .ref q_a1_heardWord, .ref q_a1_heardAnswer, .int m_a1_heard])), (q_a1_ending, .inl (cI, 10, .inl m_a1_ending)), (q_a1_meaning, .inl (cI, 10, .inl m_a1_meaning)), (q_a1_alikeTo, .inl (cI, 8, .inl m_a1_alikeTo))]
abbrev rX0_chimes : Room := { frames := 3, cells := 0, slots := 0, locals := 69 }
def fX0_chimes (N : Nat) (m_a1_words : Int32) (m_a1_ending : Nat → Int32) (m_a1_meaning : Nat → Int32) (m_a1_alikeTo : Nat → Int32) (x2 : Int32) (x3 : Int32) : Option (Int32) := gm_bind (fX4_chimes N m_a1_words m_a1_ending m_a1_alikeTo x2 x3) (fun o1 => gm_bind (fX9_wordsMeaning N m_a1_words m_a1_meaning x2) (fun o2 => some ((o1 ||| o2))))
set_option maxRecDepth 20000 in
theorem inX0_chimes_X9 : ∀ w ∈ u_ws RX9 TX9 14, w ∈ wsX0_chimes := fun w h => by
  obtain ⟨k, hk, rfl⟩ := List.mem_map.mp h
  have hk2 := List.mem_range.mp hk
  exact List.mem_of_getElem? (i := 29 + k) (by rcases (show k = 0 ∨ k = 1 ∨ k = 2 ∨ k = 3 ∨ k = 4 ∨ k = 5 ∨ k = 6 ∨ k = 7 ∨ k = 8 ∨ k = 9 ∨ k = 10 ∨ k = 11 ∨ k = 12 ∨ k = 13 by omega) with rfl | rfl | rfl | rfl | rfl | rfl | rfl | rfl | rfl | rfl | rfl | rfl | rfl | rfl <;> rfl)
set_option maxRecDepth 100000 in
set_option maxHeartbeats 4000000 in
theorem mX0_chimes (l : Launch) (dC : Nat → ClassId) (dI : Nat → Nat → Nat) (cI : ClassId) (q q_a1 q_a1_ending q_a1_meaning q_a1_alikeTo q_a1_cost q_a1_kind q_a1_want q_a1_saidAhead q_a1_heardWord q_a1_heardAnswer : Nat) (m_a1_words : Int32) (m_a1_people : Int32) (m_a1_said : Int32) (m_a1_undos : Int32) (m_a1_heard : Int32) (m_a1_ending : Nat → Int32) (m_a1_meaning : Nat → Int32) (m_a1_alikeTo : Nat → Int32) (x2 : Int32) (x3 : Int32) (ci : Nat) {Cn : String} {Tn : u_T} {Nn : Nat} (hci : vwCl[ci]? = some (Cn, Tn, Nn))  {N : Nat} {out : Int32} (h : fX0_chimes N m_a1_words m_a1_ending m_a1_meaning m_a1_alikeTo x2 x3 = some out) : gm_Met l yX0_chimes wsX0_chimes rX0_chimes (dC, dI) [(cI, .int)] gm_T [.ref q, .ref q_a1, .int x2, .int x3] (wX0_chimes cI ci q q_a1 q_a1_ending q_a1_meaning q_a1_alikeTo q_a1_cost q_a1_kind q_a1_want q_a1_saidAhead q_a1_heardWord q_a1_heardAnswer m_a1_words m_a1_people m_a1_said m_a1_undos m_a1_heard m_a1_ending m_a1_meaning m_a1_alikeTo) (some (.int out)) (wX0_chimes cI ci q q_a1 q_a1_ending q_a1_meaning q_a1_alikeTo q_a1_cost q_a1_kind q_a1_want q_a1_saidAhead q_a1_heardWord q_a1_heardAnswer m_a1_words m_a1_people m_a1_said m_a1_undos m_a1_heard m_a1_ending m_a1_meaning m_a1_alikeTo) := by
  refine gm_ofW (cc := cX0_chimes) (maxL := 4) (ret := (some .int)) (by decide +kernel) rfl (Nat.le_of_ble_eq_true rfl) ?_
  intro p e s m below meth c A C0 hH ls hl
  generalize ([.ref q, .ref q_a1, .int x2, .int x3] : List Value).toArray = args at C0 ⊢
  have hl : lv_has ls 4 [(0, .ref q), (1, .ref q_a1), (2, .int x2), (3, .int x3)] := hl
  generalize s.heap = H at hH ⊢
  generalize ([] : List Loc) = locs at hH ⊢
  obtain ⟨hx, hb, hml, hr, hown, hts, hA, hK, hX, hlocks⟩ := id C0
  unfold fX0_chimes at h
  refine lv_aload_n hx hb dX0_chimes_0 rfl (lv_at hl 0 rfl) ?_
  refine lv_aload_n hx hb dX0_chimes_1 rfl (lv_at hl 1 rfl) ?_
  refine lv_iload_n hx hb dX0_chimes_2 rfl (lv_at hl 2 rfl) ?_
  refine lv_iload_n hx hb dX0_chimes_3 rfl (lv_at hl 3 rfl) ?_
  obtain ⟨o1, ho1, h⟩ := gm_bind_e h
  refine gm_callU (As := [.ref q_a1, .int x2, .int x3]) (rest := []) (n := 3) (ci := ci) (q0 := 0) C0 hH (mX4_chimes l dC dI cI q q_a1 q_a1_ending q_a1_alikeTo q_a1_meaning q_a1_cost q_a1_kind q_a1_want q_a1_saidAhead q_a1_heardWord q_a1_heardAnswer m_a1_words m_a1_people m_a1_said m_a1_undos m_a1_heard m_a1_ending m_a1_alikeTo x2 x3 ci hci   ho1) gX0_chimes_X4_chimes_s7 rfl (by decide +kernel) ⟨rfl, rfl, Nat.le_of_ble_eq_true rfl, Nat.le_of_ble_eq_true rfl⟩ gm_T_ok (fun _ => trivial) [0, 1, 2, 4] rfl rfl rfl [0] rfl rfl hci rfl hl.1 rfl (Nat.le_of_ble_eq_true rfl) dX0_chimes_4 ⟨Nat.zero_le _, Nat.zero_le _⟩ (fun H locs hH => ?_)
  simp only [wX0_chimes, wX4_chimes, gm_sets, List.set_cons_succ, List.set_cons_zero] at hH
  have hH : gm_H (dC, dI) A s (wX0_chimes cI ci q q_a1 q_a1_ending q_a1_meaning q_a1_alikeTo q_a1_cost q_a1_kind q_a1_want q_a1_saidAhead q_a1_heardWord q_a1_heardAnswer m_a1_words m_a1_people m_a1_said m_a1_undos m_a1_heard m_a1_ending m_a1_meaning m_a1_alikeTo) H locs := hH
  refine lv_aload_n hx hb dX0_chimes_7 rfl (lv_at hl 1 rfl) ?_
  refine lv_iload_n hx hb dX0_chimes_8 rfl (lv_at hl 2 rfl) ?_
  obtain ⟨o2, ho2, h⟩ := gm_bind_e h
  refine gm_callV (As := [.int x2]) (rest := [.int o1]) (n := 1) (ci := 9) (q0 := 1) C0 hH (mX9_wordsMeaning l dC dI cI q_a1 q_a1_meaning q_a1_ending q_a1_cost q_a1_alikeTo q_a1_kind q_a1_want q_a1_saidAhead q_a1_heardWord q_a1_heardAnswer m_a1_words m_a1_people m_a1_said m_a1_undos m_a1_heard m_a1_meaning x2   ho2) gX0_chimes_X9_wordsMeaning rfl (by decide +kernel) ⟨rfl, rfl, Nat.le_of_ble_eq_true rfl, Nat.le_of_ble_eq_true rfl⟩ gm_T_ok (fun _ => trivial) [1, 3] rfl rfl rfl [0] rfl rfl rfl rfl hl.1 rfl (Nat.le_of_ble_eq_true rfl) dX0_chimes_9 ⟨Nat.zero_le _, Nat.zero_le _⟩ (fun H locs hH => ?_)
  have hH : gm_H (dC, dI) A s (wX0_chimes cI ci q q_a1 q_a1_ending q_a1_meaning q_a1_alikeTo q_a1_cost q_a1_kind q_a1_want q_a1_saidAhead q_a1_heardWord q_a1_heardAnswer m_a1_words m_a1_people m_a1_said m_a1_undos m_a1_heard m_a1_ending m_a1_meaning m_a1_alikeTo) H locs := hH
  refine lv_ior hx hb dX0_chimes_12 ?_
  obtain rfl := Option.some.inj h
  exact gm_iret C0 hH dX0_chimes_13
def fKD (N : Nat) (k : Int32) (m_a1_words : Int32) (m_a1_ending : Nat → Int32) (m_a1_meaning : Nat → Int32) (m_a1_alikeTo : Nat → Int32) (x2 x3 : Int32) : Option Int32 := if k = 0 then fX7_chimes N m_a1_words m_a1_ending x2 x3 else if k = 1 then fX4_chimes N m_a1_words m_a1_ending m_a1_alikeTo x2 x3 else if k = 2 then fX3_chimes N m_a1_words m_a1_ending x2 x3 else if k = 3 then fX8_chimes N m_a1_words m_a1_ending x2 x3 else if k = 4 then fX5_chimes N m_a1_words m_a1_ending m_a1_meaning m_a1_alikeTo x2 x3 else fX0_chimes N m_a1_words m_a1_ending m_a1_meaning m_a1_alikeTo x2 x3
