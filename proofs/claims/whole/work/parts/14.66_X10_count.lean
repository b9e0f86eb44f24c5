/-! X10_count -/
abbrev wX10_count (cI : ClassId) (q q_now q_now_alikeTo q_text q_draft q_images q_kinds q_duel q_cover q_clashes q_tally q_sayableByPair q_chosenPairs q_now_ending q_now_meaning q_now_cost q_now_kind q_now_want q_now_saidAhead q_now_heardWord q_now_heardAnswer q_text_bytes : Nat) (m_imagesKept : Int32) (m_bads : Int32) (m_nos : Int32) (m_fulls : Int32) (m_above : Int64) (m_below : Int64) (m_now_words : Int32) (m_now_people : Int32) (m_now_said : Int32) (m_now_undos : Int32) (m_now_heard : Int32) (m_now_alikeTo : Nat → Int32) (m_text_length : Int32) (m_text_items : Int32) (m_text_place : Int32) (m_text_start : Int32) (m_text_token : Int32) (m_text_number : Int32) : va_W := [(q, .inr (10, [.ref q_now, .ref q_draft, .ref q_images, .int m_imagesKept, .ref q_kinds, .ref q_text, .ref q_duel, .ref q_cover, .int m_bads, .int m_nos, .int m_fulls, .long m_above, .long m_below, .ref q_clashes, .ref q_tally, .ref q_sayableByPair, .ref q_chosenPairs])), (q_now, .inr (9, [.ref q_now_ending, .ref q_now_meaning, .ref q_now_cost, .int m_now_words, .ref q_now_alikeTo, .ref q_now_kind, .ref q_now_want, .int m_now_people, .int m_now_said, .ref q_now_saidAhead, .int m_now_undos, .ref q_now_heardWord, .ref q_now_heardAnswer, .int m_now_heard])), (q_now_alikeTo, .inl (cI, 8, .inl m_now_alikeTo)), (q_text, .inr (6, [.ref q_text_bytes, .int m_text_length, .int m_text_items, .int m_text_place, .int m_text_start, .int m_text_token, .int m_text_number]))]
abbrev rX10_count : Room := { frames := 3, cells := 0, slots := 0, locals := 63 }
def fX10_count (N : Nat) (m_bads : Int32) (m_nos : Int32) (m_fulls : Int32) (m_now_words : Int32) (m_now_people : Int32) (m_now_said : Int32) (m_now_undos : Int32) (m_now_heard : Int32) (m_now_alikeTo : Nat → Int32) (m_text_length : Int32) (x1 : Int32) : Option (Int32 × Int32 × Int32 × Int32) := gm_bind (fX10_fits N x1 7) (fun o1 => (if o1 = 0 then gm_bind (fX10_refuse N m_bads m_nos m_fulls ((-2))) (fun o4 => some (o4.1, o4.2.1, o4.2.2.1, o4.2.2.2)) else gm_bind (fX10_howMany N m_now_words m_now_people m_now_said m_now_undos m_now_heard m_now_alikeTo m_text_length x1) (fun o3 => some (o3, m_bads, m_nos, m_fulls))))
set_option maxRecDepth 20000 in
theorem inX10_count_X10 : ∀ w ∈ u_ws RX10 TX10 17, w ∈ wsX10_count := fun w h => by
  obtain ⟨k, hk, rfl⟩ := List.mem_map.mp h
  have hk2 := List.mem_range.mp hk
  exact List.mem_of_getElem? (i := 38 + k) (by rcases (show k = 0 ∨ k = 1 ∨ k = 2 ∨ k = 3 ∨ k = 4 ∨ k = 5 ∨ k = 6 ∨ k = 7 ∨ k = 8 ∨ k = 9 ∨ k = 10 ∨ k = 11 ∨ k = 12 ∨ k = 13 ∨ k = 14 ∨ k = 15 ∨ k = 16 by omega) with rfl | rfl | rfl | rfl | rfl | rfl | rfl | rfl | rfl | rfl | rfl | rfl | rfl | rfl | rfl | rfl | rfl <;> rfl)
set_option maxRecDepth 20000 in
theorem inX10_count_X6 : ∀ w ∈ u_ws RX6 TX6 7, w ∈ wsX10_count := fun w h => by
  obtain ⟨k, hk, rfl⟩ := List.mem_map.mp h
  have hk2 := List.mem_range.mp hk
  exact List.mem_of_getElem? (i := 69 + k) (by rcases (show k = 0 ∨ k = 1 ∨ k = 2 ∨ k = 3 ∨ k = 4 ∨ k = 5 ∨ k = 6 by omega) with rfl | rfl | rfl | rfl | rfl | rfl | rfl <;> rfl)
set_option maxRecDepth 20000 in
theorem inX10_count_X9 : ∀ w ∈ u_ws RX9 TX9 14, w ∈ wsX10_count := fun w h => by
  obtain ⟨k, hk, rfl⟩ := List.mem_map.mp h
  have hk2 := List.mem_range.mp hk
  exact List.mem_of_getElem? (i := 55 + k) (by rcases (show k = 0 ∨ k = 1 ∨ k = 2 ∨ k = 3 ∨ k = 4 ∨ k = 5 ∨ k = 6 ∨ k = 7 ∨ k = 8 ∨ k = 9 ∨ k = 10 ∨ k = 11 ∨ k = 12 ∨ k = 13 by omega) with rfl | rfl | rfl | rfl | rfl | rfl | rfl | rfl | rfl | rfl | rfl | rfl | rfl | rfl <;> rfl)
set_option maxRecDepth 100000 in
set_option maxHeartbeats 4000000 in
theorem mX10_count (l : Launch) (dC : Nat → ClassId) (dI : Nat → Nat → Nat) (cI : ClassId) (q q_now q_now_alikeTo q_text q_draft q_images q_kinds q_duel q_cover q_clashes q_tally q_sayableByPair q_chosenPairs q_now_ending q_now_meaning q_now_cost q_now_kind q_now_want q_now_saidAhead q_now_heardWord q_now_heardAnswer q_text_bytes : Nat) (m_imagesKept : Int32) (m_bads : Int32) (m_nos : Int32) (m_fulls : Int32) (m_above : Int64) (m_below : Int64) (m_now_words : Int32) (m_now_people : Int32) (m_now_said : Int32) (m_now_undos : Int32) (m_now_heard : Int32) (m_now_alikeTo : Nat → Int32) (m_text_length : Int32) (m_text_items : Int32) (m_text_place : Int32) (m_text_start : Int32) (m_text_token : Int32) (m_text_number : Int32) (x1 : Int32)  {N : Nat} {out : Int32 × Int32 × Int32 × Int32} (h : fX10_count N m_bads m_nos m_fulls m_now_words m_now_people m_now_said m_now_undos m_now_heard m_now_alikeTo m_text_length x1 = some out) : gm_Met l yX10_count wsX10_count rX10_count (dC, dI) [(cI, .int)] gm_T [.ref q, .int x1] (wX10_count cI q q_now q_now_alikeTo q_text q_draft q_images q_kinds q_duel q_cover q_clashes q_tally q_sayableByPair q_chosenPairs q_now_ending q_now_meaning q_now_cost q_now_kind q_now_want q_now_saidAhead q_now_heardWord q_now_heardAnswer q_text_bytes m_imagesKept m_bads m_nos m_fulls m_above m_below m_now_words m_now_people m_now_said m_now_undos m_now_heard m_now_alikeTo m_text_length m_text_items m_text_place m_text_start m_text_token m_text_number) (some (.int out.1)) (wX10_count cI q q_now q_now_alikeTo q_text q_draft q_images q_kinds q_duel q_cover q_clashes q_tally q_sayableByPair q_chosenPairs q_now_ending q_now_meaning q_now_cost q_now_kind q_now_want q_now_saidAhead q_now_heardWord q_now_heardAnswer q_text_bytes m_imagesKept out.2.1 out.2.2.1 out.2.2.2 m_above m_below m_now_words m_now_people m_now_said m_now_undos m_now_heard m_now_alikeTo m_text_length m_text_items m_text_place m_text_start m_text_token m_text_number) := by
  refine gm_ofW (cc := cX10_count) (maxL := 2) (ret := (some .int)) (by decide +kernel) rfl (Nat.le_of_ble_eq_true rfl) ?_
  intro p e s m below meth c A C0 hH ls hl
  generalize ([.ref q, .int x1] : List Value).toArray = args at C0 ⊢
  have hl : lv_has ls 2 [(0, .ref q), (1, .int x1)] := hl
  generalize s.heap = H at hH ⊢
  generalize ([] : List Loc) = locs at hH ⊢
  obtain ⟨hx, hb, hml, hr, hown, hts, hA, hK, hX, hlocks⟩ := id C0
  unfold fX10_count at h
  refine lv_iload_n hx hb dX10_count_0 rfl (lv_at hl 1 rfl) ?_
  refine lv_bipush (v := 7) hx hb dX10_count_1 (by decide) ?_
  obtain ⟨o1, ho1, h⟩ := gm_bind_e h
  refine gm_callS (As := [.int x1, .int 7]) (rest := []) (n := 2) C0 hH (mX10_fits l dC dI    x1 7   ho1) gX10_count_X10_fits rfl (by decide +kernel) ⟨rfl, rfl, Nat.le_of_ble_eq_true rfl, Nat.le_of_ble_eq_true rfl⟩ gm_T_ok (fun _ => trivial) [] rfl rfl rfl [] rfl rfl hl.1 rfl (Nat.le_of_ble_eq_true rfl) dX10_count_3 ⟨Nat.zero_le _, Nat.zero_le _⟩ (fun H locs hH => ?_)
  have hH : gm_H (dC, dI) A s (wX10_count cI q q_now q_now_alikeTo q_text q_draft q_images q_kinds q_duel q_cover q_clashes q_tally q_sayableByPair q_chosenPairs q_now_ending q_now_meaning q_now_cost q_now_kind q_now_want q_now_saidAhead q_now_heardWord q_now_heardAnswer q_text_bytes m_imagesKept m_bads m_nos m_fulls m_above m_below m_now_words m_now_people m_now_said m_now_undos m_now_heard m_now_alikeTo m_text_length m_text_items m_text_place m_text_start m_text_token m_text_number) H locs := hH
  refine lv_if_ne (tgt := 16) hx hb dX10_count_6 (by decide) (fun hc2 => ?_) (fun hc2 => ?_)
  · replace h := gm_neg hc2 h
    refine lv_aload_n hx hb dX10_count_16 rfl (lv_at hl 0 rfl) ?_
    refine lv_iload_n hx hb dX10_count_17 rfl (lv_at hl 1 rfl) ?_
    obtain ⟨o3, ho3, h⟩ := gm_bind_e h
    refine gm_callV (As := [.int x1]) (rest := []) (n := 1) (ci := 10) (q0 := 0) C0 hH (mX10_howMany l dC dI cI q q_now q_now_alikeTo q_text q_draft q_images q_kinds q_duel q_cover q_clashes q_tally q_sayableByPair q_chosenPairs q_now_ending q_now_meaning q_now_cost q_now_kind q_now_want q_now_saidAhead q_now_heardWord q_now_heardAnswer q_text_bytes m_imagesKept m_bads m_nos m_fulls m_above m_below m_now_words m_now_people m_now_said m_now_undos m_now_heard m_now_alikeTo m_text_length m_text_items m_text_place m_text_start m_text_token m_text_number x1   ho3) gX10_count_X10_howMany rfl (by decide +kernel) ⟨rfl, rfl, Nat.le_of_ble_eq_true rfl, Nat.le_of_ble_eq_true rfl⟩ gm_T_ok (fun _ => trivial) [0, 1, 2, 3] rfl rfl rfl [0] rfl rfl rfl rfl hl.1 rfl (Nat.le_of_ble_eq_true rfl) dX10_count_18 ⟨Nat.zero_le _, Nat.zero_le _⟩ (fun H locs hH => ?_)
    simp only [wX10_count, wX10_howMany, gm_sets, List.set_cons_succ, List.set_cons_zero] at hH
    have hH : gm_H (dC, dI) A s (wX10_count cI q q_now q_now_alikeTo q_text q_draft q_images q_kinds q_duel q_cover q_clashes q_tally q_sayableByPair q_chosenPairs q_now_ending q_now_meaning q_now_cost q_now_kind q_now_want q_now_saidAhead q_now_heardWord q_now_heardAnswer q_text_bytes m_imagesKept m_bads m_nos m_fulls m_above m_below m_now_words m_now_people m_now_said m_now_undos m_now_heard m_now_alikeTo m_text_length m_text_items m_text_place m_text_start m_text_token m_text_number) H locs := hH
    obtain rfl := Option.some.inj h
    exact gm_iret C0 hH dX10_count_21
  · replace h := gm_pos hc2 h
    refine lv_aload_n hx hb dX10_count_9 rfl (lv_at hl 0 rfl) ?_
    refine lv_bipush (v := (-2)) hx hb dX10_count_10 (by decide) ?_
    obtain ⟨o4, ho4, h⟩ := gm_bind_e h
    refine gm_callV (As := [.int (-2)]) (rest := []) (n := 1) (ci := 10) (q0 := 0) C0 hH (mX10_refuse l dC dI  q q_now q_draft q_images q_kinds q_text q_duel q_cover q_clashes q_tally q_sayableByPair q_chosenPairs m_imagesKept m_bads m_nos m_fulls m_above m_below ((-2))   ho4) gX10_count_X10_refuse rfl (by decide +kernel) ⟨rfl, rfl, Nat.le_of_ble_eq_true rfl, Nat.le_of_ble_eq_true rfl⟩ gm_T_ok (fun _ => trivial) [0] rfl rfl rfl [] rfl rfl rfl rfl hl.1 rfl (Nat.le_of_ble_eq_true rfl) dX10_count_12 ⟨Nat.zero_le _, Nat.zero_le _⟩ (fun H locs hH => ?_)
    have hH : gm_H (dC, dI) A s (wX10_count cI q q_now q_now_alikeTo q_text q_draft q_images q_kinds q_duel q_cover q_clashes q_tally q_sayableByPair q_chosenPairs q_now_ending q_now_meaning q_now_cost q_now_kind q_now_want q_now_saidAhead q_now_heardWord q_now_heardAnswer q_text_bytes m_imagesKept o4.2.1 o4.2.2.1 o4.2.2.2 m_above m_below m_now_words m_now_people m_now_said m_now_undos m_now_heard m_now_alikeTo m_text_length m_text_items m_text_place m_text_start m_text_token m_text_number) H locs := hH
    obtain rfl := Option.some.inj h
    exact gm_iret C0 hH dX10_count_15
