/-! X6_takesPerson -/
abbrev wX6_takesPerson (cI : ClassId) (q q_bytes q_a1 q_a1_kind q_a1_want q_a1_ending q_a1_meaning q_a1_cost q_a1_alikeTo q_a1_saidAhead q_a1_heardWord q_a1_heardAnswer : Nat) (m_length : Int32) (m_items : Int32) (m_place : Int32) (m_start : Int32) (m_token : Int32) (m_number : Int32) (m_bytes : Nat → Int32) (m_a1_words : Int32) (m_a1_people : Int32) (m_a1_said : Int32) (m_a1_undos : Int32) (m_a1_heard : Int32) (m_a1_kind : Nat → Int32) (m_a1_want : Nat → Int32) : va_W := [(q, .inr (6, [.ref q_bytes, .int m_length, .int m_items, .int m_place, .int m_start, .int m_token, .int m_number])), (q_bytes, .inl (cI, 150, .inl m_bytes)), (q_a1, .inr (9, [.ref q_a1_ending, .ref q_a1_meaning, .ref q_a1_cost, .int m_a1_words, .ref q_a1_alikeTo, .ref q_a1_kind, .ref q_a1_want, .int m_a1_people, .int m_a1_said, .ref q_a1_saidAhead, .int m_a1_undos, .ref q_a1_heardWord, .ref q_a1_heardAnswer, .int m_a1_heard])), (q_a1_kind, .inl (cI, 5, .inl m_a1_kind)), (q_a1_want, .inl (cI, 5, .inl m_a1_want))]
abbrev rX6_takesPerson : Room := { frames := 3, cells := 0, slots := 0, locals := 62 }
def fX6_takesPerson (N : Nat) (m_length : Int32) (m_place : Int32) (m_start : Int32) (m_token : Int32) (m_number : Int32) (m_bytes : Nat → Int32) (m_a1_people : Int32) (m_a1_kind : Nat → Int32) (m_a1_want : Nat → Int32)  : Option (Int32 × Int32 × Int32 × Int32 × Int32 × Int32 × (Nat → Int32) × (Nat → Int32)) := gm_bind (fX6_takesBelow N m_length m_place m_start m_token m_number m_bytes 6) (fun o1 => (if o1.1 = 0 then some (0, o1.2.1, o1.2.2.1, o1.2.2.2.1, o1.2.2.2.2, m_a1_people, m_a1_kind, m_a1_want) else gm_bind (fX6_takesBelow N m_length o1.2.1 o1.2.2.1 o1.2.2.2.1 o1.2.2.2.2 m_bytes 8) (fun o3 => (if o3.1 = 0 then some (0, o3.2.1, o3.2.2.1, o3.2.2.2.1, o3.2.2.2.2, m_a1_people, m_a1_kind, m_a1_want) else gm_bind (fX9_addPerson N m_a1_people m_a1_kind m_a1_want o1.2.2.2.2 o3.2.2.2.2) (fun o5 => gm_bind (fX6_takesStop N m_length o3.2.1 o3.2.2.1 o3.2.2.2.1 o3.2.2.2.2 m_bytes) (fun o6 => gm_bl o6.1 (some (o6.1, o6.2.1, o6.2.2.1, o6.2.2.2.1, o6.2.2.2.2, o5.2.1, o5.2.2.1, o5.2.2.2))))))))
set_option maxRecDepth 20000 in
theorem inX6_takesPerson_X6 : ∀ w ∈ u_ws RX6 TX6 7, w ∈ wsX6_takesPerson := fun w h => by
  obtain ⟨k, hk, rfl⟩ := List.mem_map.mp h
  have hk2 := List.mem_range.mp hk
  exact List.mem_of_getElem? (i := 35 + k) (by rcases (show k = 0 ∨ k = 1 ∨ k = 2 ∨ k = 3 ∨ k = 4 ∨ k = 5 ∨ k = 6 by omega) with rfl | rfl | rfl | rfl | rfl | rfl | rfl <;> rfl)
set_option maxRecDepth 20000 in
theorem inX6_takesPerson_X9 : ∀ w ∈ u_ws RX9 TX9 14, w ∈ wsX6_takesPerson := fun w h => by
  obtain ⟨k, hk, rfl⟩ := List.mem_map.mp h
  have hk2 := List.mem_range.mp hk
  exact List.mem_of_getElem? (i := 42 + k) (by rcases (show k = 0 ∨ k = 1 ∨ k = 2 ∨ k = 3 ∨ k = 4 ∨ k = 5 ∨ k = 6 ∨ k = 7 ∨ k = 8 ∨ k = 9 ∨ k = 10 ∨ k = 11 ∨ k = 12 ∨ k = 13 by omega) with rfl | rfl | rfl | rfl | rfl | rfl | rfl | rfl | rfl | rfl | rfl | rfl | rfl | rfl <;> rfl)
set_option maxRecDepth 100000 in
set_option maxHeartbeats 4000000 in
theorem mX6_takesPerson (l : Launch) (dC : Nat → ClassId) (dI : Nat → Nat → Nat) (cI : ClassId) (q q_bytes q_a1 q_a1_kind q_a1_want q_a1_ending q_a1_meaning q_a1_cost q_a1_alikeTo q_a1_saidAhead q_a1_heardWord q_a1_heardAnswer : Nat) (m_length : Int32) (m_items : Int32) (m_place : Int32) (m_start : Int32) (m_token : Int32) (m_number : Int32) (m_bytes : Nat → Int32) (m_a1_words : Int32) (m_a1_people : Int32) (m_a1_said : Int32) (m_a1_undos : Int32) (m_a1_heard : Int32) (m_a1_kind : Nat → Int32) (m_a1_want : Nat → Int32)   {N : Nat} {out : Int32 × Int32 × Int32 × Int32 × Int32 × Int32 × (Nat → Int32) × (Nat → Int32)} (h : fX6_takesPerson N m_length m_place m_start m_token m_number m_bytes m_a1_people m_a1_kind m_a1_want = some out) : gm_Met l yX6_takesPerson wsX6_takesPerson rX6_takesPerson (dC, dI) [(cI, .int)] gm_T [.ref q, .ref q_a1] (wX6_takesPerson cI q q_bytes q_a1 q_a1_kind q_a1_want q_a1_ending q_a1_meaning q_a1_cost q_a1_alikeTo q_a1_saidAhead q_a1_heardWord q_a1_heardAnswer m_length m_items m_place m_start m_token m_number m_bytes m_a1_words m_a1_people m_a1_said m_a1_undos m_a1_heard m_a1_kind m_a1_want) (some (.int out.1)) (wX6_takesPerson cI q q_bytes q_a1 q_a1_kind q_a1_want q_a1_ending q_a1_meaning q_a1_cost q_a1_alikeTo q_a1_saidAhead q_a1_heardWord q_a1_heardAnswer m_length m_items out.2.1 out.2.2.1 out.2.2.2.1 out.2.2.2.2.1 m_bytes m_a1_words out.2.2.2.2.2.1 m_a1_said m_a1_undos m_a1_heard out.2.2.2.2.2.2.1 out.2.2.2.2.2.2.2) := by
  refine gm_ofW (cc := cX6_takesPerson) (maxL := 3) (ret := (some .boolean)) (by decide +kernel) rfl (Nat.le_of_ble_eq_true rfl) ?_
  intro p e s m below meth c A C0 hH ls hl
  generalize ([.ref q, .ref q_a1] : List Value).toArray = args at C0 ⊢
  have hl : lv_has ls 3 [(0, .ref q), (1, .ref q_a1)] := hl
  generalize s.heap = H at hH ⊢
  generalize ([] : List Loc) = locs at hH ⊢
  obtain ⟨hx, hb, hml, hr, hown, hts, hA, hK, hX, hlocks⟩ := id C0
  unfold fX6_takesPerson at h
  refine lv_aload_n hx hb dX6_takesPerson_0 rfl (lv_at hl 0 rfl) ?_
  refine lv_bipush (v := 6) hx hb dX6_takesPerson_1 (by decide) ?_
  obtain ⟨o1, ho1, h⟩ := gm_bind_e h
  refine gm_callV (As := [.int 6]) (rest := []) (n := 1) (ci := 6) (q0 := 0) C0 hH (mX6_takesBelow l dC dI cI q q_bytes m_length m_items m_place m_start m_token m_number m_bytes 6   ho1) gX6_takesPerson_X6_takesBelow rfl (by decide +kernel) ⟨rfl, rfl, Nat.le_of_ble_eq_true rfl, Nat.le_of_ble_eq_true rfl⟩ gm_T_ok (fun _ => trivial) [0, 1] rfl rfl rfl [0] rfl rfl rfl rfl hl.1 rfl (Nat.le_of_ble_eq_true rfl) dX6_takesPerson_3 ⟨Nat.zero_le _, Nat.zero_le _⟩ (fun H locs hH => ?_)
  have hH : gm_H (dC, dI) A s (wX6_takesPerson cI q q_bytes q_a1 q_a1_kind q_a1_want q_a1_ending q_a1_meaning q_a1_cost q_a1_alikeTo q_a1_saidAhead q_a1_heardWord q_a1_heardAnswer m_length m_items o1.2.1 o1.2.2.1 o1.2.2.2.1 o1.2.2.2.2 m_bytes m_a1_words m_a1_people m_a1_said m_a1_undos m_a1_heard m_a1_kind m_a1_want) H locs := hH
  refine lv_if_ne (tgt := 11) hx hb dX6_takesPerson_6 (by decide) (fun hc2 => ?_) (fun hc2 => ?_)
  · replace h := gm_neg hc2 h
    refine lv_aload_n hx hb dX6_takesPerson_11 rfl (lv_at hl 0 rfl) ?_
    refine gm_get (ci := 6) C0 hH inX6_takesPerson_X6 0 6 1 rfl rfl (by decide) rfl rfl dX6_takesPerson_12 ?_
    refine lv_istore_n (lv' := [(2, .int o1.2.2.2.2), (0, .ref q), (1, .ref q_a1)]) hx hb dX6_takesPerson_15 rfl hl (by decide) rfl (fun ls hl => ?_)
    refine lv_aload_n hx hb dX6_takesPerson_16 rfl (lv_at hl 1 rfl) ?_
    refine lv_bipush (v := 8) hx hb dX6_takesPerson_17 (by decide) ?_
    obtain ⟨o3, ho3, h⟩ := gm_bind_e h
    refine gm_callV (As := [.int 8]) (rest := []) (n := 1) (ci := 6) (q0 := 0) C0 hH (mX6_takesBelow l dC dI cI q q_bytes m_length m_items o1.2.1 o1.2.2.1 o1.2.2.2.1 o1.2.2.2.2 m_bytes 8   ho3) gX6_takesPerson_X6_takesBelow rfl (by decide +kernel) ⟨rfl, rfl, Nat.le_of_ble_eq_true rfl, Nat.le_of_ble_eq_true rfl⟩ gm_T_ok (fun _ => trivial) [0, 1] rfl rfl rfl [0] rfl rfl rfl rfl hl.1 rfl (Nat.le_of_ble_eq_true rfl) dX6_takesPerson_19 ⟨Nat.zero_le _, Nat.zero_le _⟩ (fun H locs hH => ?_)
    have hH : gm_H (dC, dI) A s (wX6_takesPerson cI q q_bytes q_a1 q_a1_kind q_a1_want q_a1_ending q_a1_meaning q_a1_cost q_a1_alikeTo q_a1_saidAhead q_a1_heardWord q_a1_heardAnswer m_length m_items o3.2.1 o3.2.2.1 o3.2.2.2.1 o3.2.2.2.2 m_bytes m_a1_words m_a1_people m_a1_said m_a1_undos m_a1_heard m_a1_kind m_a1_want) H locs := hH
    refine lv_if_ne (tgt := 27) hx hb dX6_takesPerson_22 (by decide) (fun hc4 => ?_) (fun hc4 => ?_)
    · replace h := gm_neg hc4 h
      refine lv_aload_n hx hb dX6_takesPerson_27 rfl (lv_at hl 2 rfl) ?_
      refine lv_iload_n hx hb dX6_takesPerson_28 rfl (lv_at hl 0 rfl) ?_
      refine lv_aload_n hx hb dX6_takesPerson_29 rfl (lv_at hl 1 rfl) ?_
      refine gm_get (ci := 6) C0 hH inX6_takesPerson_X6 0 6 1 rfl rfl (by decide) rfl rfl dX6_takesPerson_30 ?_
      obtain ⟨o5, ho5, h⟩ := gm_bind_e h
      refine gm_callV (As := [.int o1.2.2.2.2, .int o3.2.2.2.2]) (rest := []) (n := 2) (ci := 9) (q0 := 2) C0 hH (mX9_addPerson l dC dI cI q_a1 q_a1_kind q_a1_want q_a1_ending q_a1_meaning q_a1_cost q_a1_alikeTo q_a1_saidAhead q_a1_heardWord q_a1_heardAnswer m_a1_words m_a1_people m_a1_said m_a1_undos m_a1_heard m_a1_kind m_a1_want o1.2.2.2.2 o3.2.2.2.2   ho5) gX6_takesPerson_X9_addPerson rfl (by decide +kernel) ⟨rfl, rfl, Nat.le_of_ble_eq_true rfl, Nat.le_of_ble_eq_true rfl⟩ gm_T_ok (fun _ => trivial) [2, 3, 4] rfl rfl rfl [0] rfl rfl rfl rfl hl.1 rfl (Nat.le_of_ble_eq_true rfl) dX6_takesPerson_33 ⟨Nat.zero_le _, Nat.zero_le _⟩ (fun H locs hH => ?_)
      have hH : gm_H (dC, dI) A s (wX6_takesPerson cI q q_bytes q_a1 q_a1_kind q_a1_want q_a1_ending q_a1_meaning q_a1_cost q_a1_alikeTo q_a1_saidAhead q_a1_heardWord q_a1_heardAnswer m_length m_items o3.2.1 o3.2.2.1 o3.2.2.2.1 o3.2.2.2.2 m_bytes m_a1_words o5.2.1 m_a1_said m_a1_undos m_a1_heard o5.2.2.1 o5.2.2.2) H locs := hH
      refine lv_pop hx hb dX6_takesPerson_36 rfl ?_
      refine lv_aload_n hx hb dX6_takesPerson_37 rfl (lv_at hl 1 rfl) ?_
      obtain ⟨o6, ho6, h⟩ := gm_bind_e h
      refine gm_callV (As := []) (rest := []) (n := 0) (ci := 6) (q0 := 0) C0 hH (mX6_takesStop l dC dI cI q q_bytes m_length m_items o3.2.1 o3.2.2.1 o3.2.2.2.1 o3.2.2.2.2 m_bytes    ho6) gX6_takesPerson_X6_takesStop rfl (by decide +kernel) ⟨rfl, rfl, Nat.le_of_ble_eq_true rfl, Nat.le_of_ble_eq_true rfl⟩ gm_T_ok (fun _ => trivial) [0, 1] rfl rfl rfl [0] rfl rfl rfl rfl hl.1 rfl (Nat.le_of_ble_eq_true rfl) dX6_takesPerson_38 ⟨Nat.zero_le _, Nat.zero_le _⟩ (fun H locs hH => ?_)
      have hH : gm_H (dC, dI) A s (wX6_takesPerson cI q q_bytes q_a1 q_a1_kind q_a1_want q_a1_ending q_a1_meaning q_a1_cost q_a1_alikeTo q_a1_saidAhead q_a1_heardWord q_a1_heardAnswer m_length m_items o6.2.1 o6.2.2.1 o6.2.2.2.1 o6.2.2.2.2 m_bytes m_a1_words o5.2.1 m_a1_said m_a1_undos m_a1_heard o5.2.2.1 o5.2.2.2) H locs := hH
      obtain ⟨hn7, h⟩ := gm_bl_e h
      obtain rfl := Option.some.inj h
      exact gm_zret C0 hH hn7 dX6_takesPerson_41
    · replace h := gm_pos hc4 h
      refine lv_iconst (v := 0) hx hb dX6_takesPerson_25 (by decide) ?_
      obtain rfl := Option.some.inj h
      exact gm_zret C0 hH (show narrow .boolean (.int 0) = .int 0 by decide) dX6_takesPerson_26
  · replace h := gm_pos hc2 h
    refine lv_iconst (v := 0) hx hb dX6_takesPerson_9 (by decide) ?_
    obtain rfl := Option.some.inj h
    exact gm_zret C0 hH (show narrow .boolean (.int 0) = .int 0 by decide) dX6_takesPerson_10
