/-! X10_type -/
abbrev wX10_type (cI : ClassId) (q q_text q_text_bytes q_now q_draft q_images q_kinds q_duel q_cover q_clashes q_tally q_sayableByPair q_chosenPairs : Nat) (m_imagesKept : Int32) (m_bads : Int32) (m_nos : Int32) (m_fulls : Int32) (m_above : Int64) (m_below : Int64) (m_text_length : Int32) (m_text_items : Int32) (m_text_place : Int32) (m_text_start : Int32) (m_text_token : Int32) (m_text_number : Int32) (m_text_bytes : Nat → Int32) : va_W := [(q, .inr (10, [.ref q_now, .ref q_draft, .ref q_images, .int m_imagesKept, .ref q_kinds, .ref q_text, .ref q_duel, .ref q_cover, .int m_bads, .int m_nos, .int m_fulls, .long m_above, .long m_below, .ref q_clashes, .ref q_tally, .ref q_sayableByPair, .ref q_chosenPairs])), (q_text, .inr (6, [.ref q_text_bytes, .int m_text_length, .int m_text_items, .int m_text_place, .int m_text_start, .int m_text_token, .int m_text_number])), (q_text_bytes, .inl (cI, 150, .inl m_text_bytes))]
abbrev rX10_type : Room := { frames := 1, cells := 0, slots := 0, locals := 21 }
def fX10_type (N : Nat) (m_bads : Int32) (m_nos : Int32) (m_fulls : Int32) (m_text_length : Int32) (m_text_bytes : Nat → Int32) (x1 : Int32) : Option (Int32 × Int32 × Int32 × Int32 × Int32 × (Nat → Int32)) := gm_bind (fX10_fits N x1 128) (fun o1 => (if o1 = 0 then gm_bind (fX10_refuse N m_bads m_nos m_fulls ((-2))) (fun o6 => some (o6.1, o6.2.1, o6.2.2.1, o6.2.2.2, m_text_length, m_text_bytes)) else (if m_text_length < 150 then gm_bind (fX6_put N m_text_length m_text_bytes x1) (fun o4 => some (o4.1, m_bads, m_nos, m_fulls, o4.2.1, o4.2.2)) else gm_bind (fX10_refuse N m_bads m_nos m_fulls ((-4))) (fun o5 => some (o5.1, o5.2.1, o5.2.2.1, o5.2.2.2, m_text_length, m_text_bytes)))))
set_option maxRecDepth 20000 in
theorem inX10_type_X10 : ∀ w ∈ u_ws RX10 TX10 17, w ∈ wsX10_type := fun w h => by
  obtain ⟨k, hk, rfl⟩ := List.mem_map.mp h
  have hk2 := List.mem_range.mp hk
  exact List.mem_of_getElem? (i := 21 + k) (by rcases (show k = 0 ∨ k = 1 ∨ k = 2 ∨ k = 3 ∨ k = 4 ∨ k = 5 ∨ k = 6 ∨ k = 7 ∨ k = 8 ∨ k = 9 ∨ k = 10 ∨ k = 11 ∨ k = 12 ∨ k = 13 ∨ k = 14 ∨ k = 15 ∨ k = 16 by omega) with rfl | rfl | rfl | rfl | rfl | rfl | rfl | rfl | rfl | rfl | rfl | rfl | rfl | rfl | rfl | rfl | rfl <;> rfl)
set_option maxRecDepth 20000 in
theorem inX10_type_X6 : ∀ w ∈ u_ws RX6 TX6 7, w ∈ wsX10_type := fun w h => by
  obtain ⟨k, hk, rfl⟩ := List.mem_map.mp h
  have hk2 := List.mem_range.mp hk
  exact List.mem_of_getElem? (i := 38 + k) (by rcases (show k = 0 ∨ k = 1 ∨ k = 2 ∨ k = 3 ∨ k = 4 ∨ k = 5 ∨ k = 6 by omega) with rfl | rfl | rfl | rfl | rfl | rfl | rfl <;> rfl)
set_option maxRecDepth 100000 in
set_option maxHeartbeats 4000000 in
theorem mX10_type (l : Launch) (dC : Nat → ClassId) (dI : Nat → Nat → Nat) (cI : ClassId) (q q_text q_text_bytes q_now q_draft q_images q_kinds q_duel q_cover q_clashes q_tally q_sayableByPair q_chosenPairs : Nat) (m_imagesKept : Int32) (m_bads : Int32) (m_nos : Int32) (m_fulls : Int32) (m_above : Int64) (m_below : Int64) (m_text_length : Int32) (m_text_items : Int32) (m_text_place : Int32) (m_text_start : Int32) (m_text_token : Int32) (m_text_number : Int32) (m_text_bytes : Nat → Int32) (x1 : Int32)  {N : Nat} {out : Int32 × Int32 × Int32 × Int32 × Int32 × (Nat → Int32)} (h : fX10_type N m_bads m_nos m_fulls m_text_length m_text_bytes x1 = some out) : gm_Met l yX10_type wsX10_type rX10_type (dC, dI) [(cI, .int)] gm_T [.ref q, .int x1] (wX10_type cI q q_text q_text_bytes q_now q_draft q_images q_kinds q_duel q_cover q_clashes q_tally q_sayableByPair q_chosenPairs m_imagesKept m_bads m_nos m_fulls m_above m_below m_text_length m_text_items m_text_place m_text_start m_text_token m_text_number m_text_bytes) (some (.int out.1)) (wX10_type cI q q_text q_text_bytes q_now q_draft q_images q_kinds q_duel q_cover q_clashes q_tally q_sayableByPair q_chosenPairs m_imagesKept out.2.1 out.2.2.1 out.2.2.2.1 m_above m_below out.2.2.2.2.1 m_text_items m_text_place m_text_start m_text_token m_text_number out.2.2.2.2.2) := by
  refine gm_ofW (cc := cX10_type) (maxL := 2) (ret := (some .int)) (by decide +kernel) rfl (Nat.le_of_ble_eq_true rfl) ?_
  intro p e s m below meth c A C0 hH ls hl
  generalize ([.ref q, .int x1] : List Value).toArray = args at C0 ⊢
  have hl : lv_has ls 2 [(0, .ref q), (1, .int x1)] := hl
  generalize s.heap = H at hH ⊢
  generalize ([] : List Loc) = locs at hH ⊢
  obtain ⟨hx, hb, hml, hr, hown, hts, hA, hK, hX, hlocks⟩ := id C0
  unfold fX10_type at h
  refine lv_iload_n hx hb dX10_type_0 rfl (lv_at hl 1 rfl) ?_
  refine lv_sipush (v := 128) hx hb dX10_type_1 (by decide) ?_
  obtain ⟨o1, ho1, h⟩ := gm_bind_e h
  refine gm_callS (As := [.int x1, .int 128]) (rest := []) (n := 2) C0 hH (mX10_fits l dC dI    x1 128   ho1) gX10_type_X10_fits rfl (by decide +kernel) ⟨rfl, rfl, Nat.le_of_ble_eq_true rfl, Nat.le_of_ble_eq_true rfl⟩ gm_T_ok (fun _ => trivial) [] rfl rfl rfl [] rfl rfl hl.1 rfl (Nat.le_of_ble_eq_true rfl) dX10_type_4 ⟨Nat.zero_le _, Nat.zero_le _⟩ (fun H locs hH => ?_)
  have hH : gm_H (dC, dI) A s (wX10_type cI q q_text q_text_bytes q_now q_draft q_images q_kinds q_duel q_cover q_clashes q_tally q_sayableByPair q_chosenPairs m_imagesKept m_bads m_nos m_fulls m_above m_below m_text_length m_text_items m_text_place m_text_start m_text_token m_text_number m_text_bytes) H locs := hH
  refine lv_if_ne (tgt := 17) hx hb dX10_type_7 (by decide) (fun hc2 => ?_) (fun hc2 => ?_)
  · replace h := gm_neg hc2 h
    refine lv_aload_n hx hb dX10_type_17 rfl (lv_at hl 0 rfl) ?_
    refine gm_get (ci := 10) C0 hH inX10_type_X10 0 5 1 rfl rfl (by decide) rfl rfl dX10_type_18 ?_
    refine gm_get (ci := 6) C0 hH inX10_type_X6 1 1 2 rfl rfl (by decide) rfl rfl dX10_type_21 ?_
    refine lv_sipush (v := 150) hx hb dX10_type_24 (by decide) ?_
    refine lv_icmp_lt (tgt := 37) hx hb dX10_type_27 (by decide) (fun hc3 => ?_) (fun hc3 => ?_)
    · replace h := gm_pos hc3 h
      refine lv_aload_n hx hb dX10_type_37 rfl (lv_at hl 0 rfl) ?_
      refine gm_get (ci := 10) C0 hH inX10_type_X10 0 5 1 rfl rfl (by decide) rfl rfl dX10_type_38 ?_
      refine lv_iload_n hx hb dX10_type_41 rfl (lv_at hl 1 rfl) ?_
      obtain ⟨o4, ho4, h⟩ := gm_bind_e h
      refine gm_callV (As := [.int x1]) (rest := []) (n := 1) (ci := 6) (q0 := 1) C0 hH (mX6_put l dC dI cI q_text q_text_bytes m_text_length m_text_items m_text_place m_text_start m_text_token m_text_number m_text_bytes x1   ho4) gX10_type_X6_put rfl (by decide +kernel) ⟨rfl, rfl, Nat.le_of_ble_eq_true rfl, Nat.le_of_ble_eq_true rfl⟩ gm_T_ok (fun _ => trivial) [1, 2] rfl rfl rfl [0] rfl rfl rfl rfl hl.1 rfl (Nat.le_of_ble_eq_true rfl) dX10_type_42 ⟨Nat.zero_le _, Nat.zero_le _⟩ (fun H locs hH => ?_)
      have hH : gm_H (dC, dI) A s (wX10_type cI q q_text q_text_bytes q_now q_draft q_images q_kinds q_duel q_cover q_clashes q_tally q_sayableByPair q_chosenPairs m_imagesKept m_bads m_nos m_fulls m_above m_below o4.2.1 m_text_items m_text_place m_text_start m_text_token m_text_number o4.2.2) H locs := hH
      obtain rfl := Option.some.inj h
      exact gm_iret C0 hH dX10_type_45
    · replace h := gm_neg hc3 h
      refine lv_aload_n hx hb dX10_type_30 rfl (lv_at hl 0 rfl) ?_
      refine lv_bipush (v := (-4)) hx hb dX10_type_31 (by decide) ?_
      obtain ⟨o5, ho5, h⟩ := gm_bind_e h
      refine gm_callV (As := [.int (-4)]) (rest := []) (n := 1) (ci := 10) (q0 := 0) C0 hH (mX10_refuse l dC dI  q q_now q_draft q_images q_kinds q_text q_duel q_cover q_clashes q_tally q_sayableByPair q_chosenPairs m_imagesKept m_bads m_nos m_fulls m_above m_below ((-4))   ho5) gX10_type_X10_refuse rfl (by decide +kernel) ⟨rfl, rfl, Nat.le_of_ble_eq_true rfl, Nat.le_of_ble_eq_true rfl⟩ gm_T_ok (fun _ => trivial) [0] rfl rfl rfl [] rfl rfl rfl rfl hl.1 rfl (Nat.le_of_ble_eq_true rfl) dX10_type_33 ⟨Nat.zero_le _, Nat.zero_le _⟩ (fun H locs hH => ?_)
      have hH : gm_H (dC, dI) A s (wX10_type cI q q_text q_text_bytes q_now q_draft q_images q_kinds q_duel q_cover q_clashes q_tally q_sayableByPair q_chosenPairs m_imagesKept o5.2.1 o5.2.2.1 o5.2.2.2 m_above m_below m_text_length m_text_items m_text_place m_text_start m_text_token m_text_number m_text_bytes) H locs := hH
      obtain rfl := Option.some.inj h
      exact gm_iret C0 hH dX10_type_36
  · replace h := gm_pos hc2 h
    refine lv_aload_n hx hb dX10_type_10 rfl (lv_at hl 0 rfl) ?_
    refine lv_bipush (v := (-2)) hx hb dX10_type_11 (by decide) ?_
    obtain ⟨o6, ho6, h⟩ := gm_bind_e h
    refine gm_callV (As := [.int (-2)]) (rest := []) (n := 1) (ci := 10) (q0 := 0) C0 hH (mX10_refuse l dC dI  q q_now q_draft q_images q_kinds q_text q_duel q_cover q_clashes q_tally q_sayableByPair q_chosenPairs m_imagesKept m_bads m_nos m_fulls m_above m_below ((-2))   ho6) gX10_type_X10_refuse rfl (by decide +kernel) ⟨rfl, rfl, Nat.le_of_ble_eq_true rfl, Nat.le_of_ble_eq_true rfl⟩ gm_T_ok (fun _ => trivial) [0] rfl rfl rfl [] rfl rfl rfl rfl hl.1 rfl (Nat.le_of_ble_eq_true rfl) dX10_type_13 ⟨Nat.zero_le _, Nat.zero_le _⟩ (fun H locs hH => ?_)
    have hH : gm_H (dC, dI) A s (wX10_type cI q q_text q_text_bytes q_now q_draft q_images q_kinds q_duel q_cover q_clashes q_tally q_sayableByPair q_chosenPairs m_imagesKept o6.2.1 o6.2.2.1 o6.2.2.2 m_above m_below m_text_length m_text_items m_text_place m_text_start m_text_token m_text_number m_text_bytes) H locs := hH
    obtain rfl := Option.some.inj h
    exact gm_iret C0 hH dX10_type_16
