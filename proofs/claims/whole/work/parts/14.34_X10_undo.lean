/-! X10_undo -/
abbrev wX10_undo (cI : ClassId) (q q_now q_now_saidAhead q_draft q_images q_kinds q_text q_duel q_cover q_clashes q_tally q_sayableByPair q_chosenPairs q_now_ending q_now_meaning q_now_cost q_now_alikeTo q_now_kind q_now_want q_now_heardWord q_now_heardAnswer : Nat) (m_imagesKept : Int32) (m_bads : Int32) (m_nos : Int32) (m_fulls : Int32) (m_above : Int64) (m_below : Int64) (m_now_words : Int32) (m_now_people : Int32) (m_now_said : Int32) (m_now_undos : Int32) (m_now_heard : Int32) (m_now_saidAhead : Nat → Int32) : va_W := [(q, .inr (10, [.ref q_now, .ref q_draft, .ref q_images, .int m_imagesKept, .ref q_kinds, .ref q_text, .ref q_duel, .ref q_cover, .int m_bads, .int m_nos, .int m_fulls, .long m_above, .long m_below, .ref q_clashes, .ref q_tally, .ref q_sayableByPair, .ref q_chosenPairs])), (q_now, .inr (9, [.ref q_now_ending, .ref q_now_meaning, .ref q_now_cost, .int m_now_words, .ref q_now_alikeTo, .ref q_now_kind, .ref q_now_want, .int m_now_people, .int m_now_said, .ref q_now_saidAhead, .int m_now_undos, .ref q_now_heardWord, .ref q_now_heardAnswer, .int m_now_heard])), (q_now_saidAhead, .inl (cI, 8, .inl m_now_saidAhead))]
abbrev rX10_undo : Room := { frames := 1, cells := 0, slots := 0, locals := 21 }
def fX10_undo (N : Nat) (m_bads : Int32) (m_nos : Int32) (m_fulls : Int32) (m_now_said : Int32) (m_now_undos : Int32) (m_now_saidAhead : Nat → Int32)  : Option (Int32 × Int32 × Int32 × Int32 × Int32 × Int32) := (if m_now_undos = 0 then gm_bind (fX10_refuse N m_bads m_nos m_fulls ((-3))) (fun o4 => some (o4.1, o4.2.1, o4.2.2.1, o4.2.2.2, m_now_said, m_now_undos)) else gm_bind (fX9_takeBack N m_now_said m_now_undos m_now_saidAhead) (fun o2 => gm_bind (fJ6_bitCount_0f7a4 N o2.1) (fun o3 => some (o3, m_bads, m_nos, m_fulls, o2.1, o2.2))))
set_option maxRecDepth 20000 in
theorem inX10_undo_X10 : ∀ w ∈ u_ws RX10 TX10 17, w ∈ wsX10_undo := fun w h => by
  obtain ⟨k, hk, rfl⟩ := List.mem_map.mp h
  have hk2 := List.mem_range.mp hk
  exact List.mem_of_getElem? (i := 27 + k) (by rcases (show k = 0 ∨ k = 1 ∨ k = 2 ∨ k = 3 ∨ k = 4 ∨ k = 5 ∨ k = 6 ∨ k = 7 ∨ k = 8 ∨ k = 9 ∨ k = 10 ∨ k = 11 ∨ k = 12 ∨ k = 13 ∨ k = 14 ∨ k = 15 ∨ k = 16 by omega) with rfl | rfl | rfl | rfl | rfl | rfl | rfl | rfl | rfl | rfl | rfl | rfl | rfl | rfl | rfl | rfl | rfl <;> rfl)
set_option maxRecDepth 20000 in
theorem inX10_undo_X9 : ∀ w ∈ u_ws RX9 TX9 14, w ∈ wsX10_undo := fun w h => by
  obtain ⟨k, hk, rfl⟩ := List.mem_map.mp h
  have hk2 := List.mem_range.mp hk
  exact List.mem_of_getElem? (i := 44 + k) (by rcases (show k = 0 ∨ k = 1 ∨ k = 2 ∨ k = 3 ∨ k = 4 ∨ k = 5 ∨ k = 6 ∨ k = 7 ∨ k = 8 ∨ k = 9 ∨ k = 10 ∨ k = 11 ∨ k = 12 ∨ k = 13 by omega) with rfl | rfl | rfl | rfl | rfl | rfl | rfl | rfl | rfl | rfl | rfl | rfl | rfl | rfl <;> rfl)
set_option maxRecDepth 100000 in
set_option maxHeartbeats 4000000 in
theorem mX10_undo (l : Launch) (dC : Nat → ClassId) (dI : Nat → Nat → Nat) (cI : ClassId) (q q_now q_now_saidAhead q_draft q_images q_kinds q_text q_duel q_cover q_clashes q_tally q_sayableByPair q_chosenPairs q_now_ending q_now_meaning q_now_cost q_now_alikeTo q_now_kind q_now_want q_now_heardWord q_now_heardAnswer : Nat) (m_imagesKept : Int32) (m_bads : Int32) (m_nos : Int32) (m_fulls : Int32) (m_above : Int64) (m_below : Int64) (m_now_words : Int32) (m_now_people : Int32) (m_now_said : Int32) (m_now_undos : Int32) (m_now_heard : Int32) (m_now_saidAhead : Nat → Int32)   {N : Nat} {out : Int32 × Int32 × Int32 × Int32 × Int32 × Int32} (h : fX10_undo N m_bads m_nos m_fulls m_now_said m_now_undos m_now_saidAhead = some out) : gm_Met l yX10_undo wsX10_undo rX10_undo (dC, dI) [(cI, .int)] gm_T [.ref q] (wX10_undo cI q q_now q_now_saidAhead q_draft q_images q_kinds q_text q_duel q_cover q_clashes q_tally q_sayableByPair q_chosenPairs q_now_ending q_now_meaning q_now_cost q_now_alikeTo q_now_kind q_now_want q_now_heardWord q_now_heardAnswer m_imagesKept m_bads m_nos m_fulls m_above m_below m_now_words m_now_people m_now_said m_now_undos m_now_heard m_now_saidAhead) (some (.int out.1)) (wX10_undo cI q q_now q_now_saidAhead q_draft q_images q_kinds q_text q_duel q_cover q_clashes q_tally q_sayableByPair q_chosenPairs q_now_ending q_now_meaning q_now_cost q_now_alikeTo q_now_kind q_now_want q_now_heardWord q_now_heardAnswer m_imagesKept out.2.1 out.2.2.1 out.2.2.2.1 m_above m_below m_now_words m_now_people out.2.2.2.2.1 out.2.2.2.2.2 m_now_heard m_now_saidAhead) := by
  refine gm_ofW (cc := cX10_undo) (maxL := 1) (ret := (some .int)) (by decide +kernel) rfl (Nat.le_of_ble_eq_true rfl) ?_
  intro p e s m below meth c A C0 hH ls hl
  generalize ([.ref q] : List Value).toArray = args at C0 ⊢
  have hl : lv_has ls 1 [(0, .ref q)] := hl
  generalize s.heap = H at hH ⊢
  generalize ([] : List Loc) = locs at hH ⊢
  obtain ⟨hx, hb, hml, hr, hown, hts, hA, hK, hX, hlocks⟩ := id C0
  unfold fX10_undo at h
  refine lv_aload_n hx hb dX10_undo_0 rfl (lv_at hl 0 rfl) ?_
  refine gm_get (ci := 10) C0 hH inX10_undo_X10 0 0 1 rfl rfl (by decide) rfl rfl dX10_undo_1 ?_
  refine gm_get (ci := 9) C0 hH inX10_undo_X9 1 10 2 rfl rfl (by decide) rfl rfl dX10_undo_4 ?_
  refine lv_if_ne (tgt := 17) hx hb dX10_undo_7 (by decide) (fun hc1 => ?_) (fun hc1 => ?_)
  · replace h := gm_neg hc1 h
    refine lv_aload_n hx hb dX10_undo_17 rfl (lv_at hl 0 rfl) ?_
    refine gm_get (ci := 10) C0 hH inX10_undo_X10 0 0 1 rfl rfl (by decide) rfl rfl dX10_undo_18 ?_
    obtain ⟨o2, ho2, h⟩ := gm_bind_e h
    refine gm_callV (As := []) (rest := []) (n := 0) (ci := 9) (q0 := 1) C0 hH (mX9_takeBack l dC dI cI q_now q_now_saidAhead q_now_ending q_now_meaning q_now_cost q_now_alikeTo q_now_kind q_now_want q_now_heardWord q_now_heardAnswer m_now_words m_now_people m_now_said m_now_undos m_now_heard m_now_saidAhead    ho2) gX10_undo_X9_takeBack rfl (by decide +kernel) ⟨rfl, rfl, Nat.le_of_ble_eq_true rfl, Nat.le_of_ble_eq_true rfl⟩ gm_T_ok (fun _ => trivial) [1, 2] rfl rfl rfl [0] rfl rfl rfl rfl hl.1 rfl (Nat.le_of_ble_eq_true rfl) dX10_undo_21 ⟨Nat.zero_le _, Nat.zero_le _⟩ (fun H locs hH => ?_)
    have hH : gm_H (dC, dI) A s (wX10_undo cI q q_now q_now_saidAhead q_draft q_images q_kinds q_text q_duel q_cover q_clashes q_tally q_sayableByPair q_chosenPairs q_now_ending q_now_meaning q_now_cost q_now_alikeTo q_now_kind q_now_want q_now_heardWord q_now_heardAnswer m_imagesKept m_bads m_nos m_fulls m_above m_below m_now_words m_now_people o2.1 o2.2 m_now_heard m_now_saidAhead) H locs := hH
    refine lv_aload_n hx hb dX10_undo_24 rfl (lv_at hl 0 rfl) ?_
    refine gm_get (ci := 10) C0 hH inX10_undo_X10 0 0 1 rfl rfl (by decide) rfl rfl dX10_undo_25 ?_
    refine gm_get (ci := 9) C0 hH inX10_undo_X9 1 8 3 rfl rfl (by decide) rfl rfl dX10_undo_28 ?_
    obtain ⟨o3, ho3, h⟩ := gm_bind_e h
    refine gm_callS (As := [.int o2.1]) (rest := []) (n := 1) C0 hH (mJ6_bitCount_0f7a4 l dC dI    o2.1   ho3) gX10_undo_J6_bitCount_0f7a4 rfl (by decide +kernel) ⟨rfl, rfl, Nat.le_of_ble_eq_true rfl, Nat.le_of_ble_eq_true rfl⟩ gm_T_ok (fun _ => trivial) [] rfl rfl rfl [] rfl rfl hl.1 rfl (Nat.le_of_ble_eq_true rfl) dX10_undo_31 ⟨Nat.zero_le _, Nat.zero_le _⟩ (fun H locs hH => ?_)
    have hH : gm_H (dC, dI) A s (wX10_undo cI q q_now q_now_saidAhead q_draft q_images q_kinds q_text q_duel q_cover q_clashes q_tally q_sayableByPair q_chosenPairs q_now_ending q_now_meaning q_now_cost q_now_alikeTo q_now_kind q_now_want q_now_heardWord q_now_heardAnswer m_imagesKept m_bads m_nos m_fulls m_above m_below m_now_words m_now_people o2.1 o2.2 m_now_heard m_now_saidAhead) H locs := hH
    obtain rfl := Option.some.inj h
    exact gm_iret C0 hH dX10_undo_34
  · replace h := gm_pos hc1 h
    refine lv_aload_n hx hb dX10_undo_10 rfl (lv_at hl 0 rfl) ?_
    refine lv_bipush (v := (-3)) hx hb dX10_undo_11 (by decide) ?_
    obtain ⟨o4, ho4, h⟩ := gm_bind_e h
    refine gm_callV (As := [.int (-3)]) (rest := []) (n := 1) (ci := 10) (q0 := 0) C0 hH (mX10_refuse l dC dI  q q_now q_draft q_images q_kinds q_text q_duel q_cover q_clashes q_tally q_sayableByPair q_chosenPairs m_imagesKept m_bads m_nos m_fulls m_above m_below ((-3))   ho4) gX10_undo_X10_refuse rfl (by decide +kernel) ⟨rfl, rfl, Nat.le_of_ble_eq_true rfl, Nat.le_of_ble_eq_true rfl⟩ gm_T_ok (fun _ => trivial) [0] rfl rfl rfl [] rfl rfl rfl rfl hl.1 rfl (Nat.le_of_ble_eq_true rfl) dX10_undo_13 ⟨Nat.zero_le _, Nat.zero_le _⟩ (fun H locs hH => ?_)
    have hH : gm_H (dC, dI) A s (wX10_undo cI q q_now q_now_saidAhead q_draft q_images q_kinds q_text q_duel q_cover q_clashes q_tally q_sayableByPair q_chosenPairs q_now_ending q_now_meaning q_now_cost q_now_alikeTo q_now_kind q_now_want q_now_heardWord q_now_heardAnswer m_imagesKept o4.2.1 o4.2.2.1 o4.2.2.2 m_above m_below m_now_words m_now_people m_now_said m_now_undos m_now_heard m_now_saidAhead) H locs := hH
    obtain rfl := Option.some.inj h
    exact gm_iret C0 hH dX10_undo_16
