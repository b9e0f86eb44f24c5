/-! X10_part -/
abbrev wX10_part (q q_now q_draft q_images q_kinds q_text q_duel q_cover q_clashes q_tally q_sayableByPair q_chosenPairs : Nat) (m_imagesKept : Int32) (m_bads : Int32) (m_nos : Int32) (m_fulls : Int32) (m_above : Int64) (m_below : Int64) : va_W := [(q, .inr (10, [.ref q_now, .ref q_draft, .ref q_images, .int m_imagesKept, .ref q_kinds, .ref q_text, .ref q_duel, .ref q_cover, .int m_bads, .int m_nos, .int m_fulls, .long m_above, .long m_below, .ref q_clashes, .ref q_tally, .ref q_sayableByPair, .ref q_chosenPairs]))]
abbrev rX10_part : Room := { frames := 1, cells := 0, slots := 0, locals := 21 }
def fX10_part (N : Nat) (m_bads : Int32) (m_nos : Int32) (m_fulls : Int32) (m_above : Int64) (m_below : Int64) (x1 : Int32) : Option (Int64 × Int32 × Int32 × Int32) := gm_bind (fX10_fits N x1 2) (fun o1 => (if o1 = 0 then gm_bind (fX10_refuse N m_bads m_nos m_fulls ((-2))) (fun o4 => some ((Int32.toInt64 o4.1), o4.2.1, o4.2.2.1, o4.2.2.2)) else (if x1 = 0 then some (m_above, m_bads, m_nos, m_fulls) else some (m_below, m_bads, m_nos, m_fulls))))
set_option maxRecDepth 20000 in
theorem inX10_part_X10 : ∀ w ∈ u_ws RX10 TX10 17, w ∈ wsX10_part := fun w h => by
  obtain ⟨k, hk, rfl⟩ := List.mem_map.mp h
  have hk2 := List.mem_range.mp hk
  exact List.mem_of_getElem? (i := 14 + k) (by rcases (show k = 0 ∨ k = 1 ∨ k = 2 ∨ k = 3 ∨ k = 4 ∨ k = 5 ∨ k = 6 ∨ k = 7 ∨ k = 8 ∨ k = 9 ∨ k = 10 ∨ k = 11 ∨ k = 12 ∨ k = 13 ∨ k = 14 ∨ k = 15 ∨ k = 16 by omega) with rfl | rfl | rfl | rfl | rfl | rfl | rfl | rfl | rfl | rfl | rfl | rfl | rfl | rfl | rfl | rfl | rfl <;> rfl)
set_option maxRecDepth 100000 in
set_option maxHeartbeats 4000000 in
theorem mX10_part (l : Launch) (dC : Nat → ClassId) (dI : Nat → Nat → Nat) (q q_now q_draft q_images q_kinds q_text q_duel q_cover q_clashes q_tally q_sayableByPair q_chosenPairs : Nat) (m_imagesKept : Int32) (m_bads : Int32) (m_nos : Int32) (m_fulls : Int32) (m_above : Int64) (m_below : Int64) (x1 : Int32)  {N : Nat} {out : Int64 × Int32 × Int32 × Int32} (h : fX10_part N m_bads m_nos m_fulls m_above m_below x1 = some out) : gm_Met l yX10_part wsX10_part rX10_part (dC, dI) [] gm_T [.ref q, .int x1] (wX10_part  q q_now q_draft q_images q_kinds q_text q_duel q_cover q_clashes q_tally q_sayableByPair q_chosenPairs m_imagesKept m_bads m_nos m_fulls m_above m_below) (some (.long out.1)) (wX10_part  q q_now q_draft q_images q_kinds q_text q_duel q_cover q_clashes q_tally q_sayableByPair q_chosenPairs m_imagesKept out.2.1 out.2.2.1 out.2.2.2 m_above m_below) := by
  refine gm_ofW (cc := cX10_part) (maxL := 2) (ret := (some .long)) (by decide +kernel) rfl (Nat.le_of_ble_eq_true rfl) ?_
  intro p e s m below meth c A C0 hH ls hl
  generalize ([.ref q, .int x1] : List Value).toArray = args at C0 ⊢
  have hl : lv_has ls 2 [(0, .ref q), (1, .int x1)] := hl
  generalize s.heap = H at hH ⊢
  generalize ([] : List Loc) = locs at hH ⊢
  obtain ⟨hx, hb, hml, hr, hown, hts, hA, hK, hX, hlocks⟩ := id C0
  unfold fX10_part at h
  refine lv_iload_n hx hb dX10_part_0 rfl (lv_at hl 1 rfl) ?_
  refine lv_iconst (v := 2) hx hb dX10_part_1 (by decide) ?_
  obtain ⟨o1, ho1, h⟩ := gm_bind_e h
  refine gm_callS (As := [.int x1, .int 2]) (rest := []) (n := 2) C0 hH (mX10_fits l dC dI    x1 2   ho1) gX10_part_X10_fits rfl (by decide +kernel) ⟨rfl, rfl, Nat.le_of_ble_eq_true rfl, Nat.le_of_ble_eq_true rfl⟩ gm_T_ok (fun _ => trivial) [] rfl rfl rfl [] rfl rfl hl.1 rfl (Nat.le_of_ble_eq_true rfl) dX10_part_2 ⟨Nat.zero_le _, Nat.zero_le _⟩ (fun H locs hH => ?_)
  have hH : gm_H (dC, dI) A s (wX10_part  q q_now q_draft q_images q_kinds q_text q_duel q_cover q_clashes q_tally q_sayableByPair q_chosenPairs m_imagesKept m_bads m_nos m_fulls m_above m_below) H locs := hH
  refine lv_if_ne (tgt := 16) hx hb dX10_part_5 (by decide) (fun hc2 => ?_) (fun hc2 => ?_)
  · replace h := gm_neg hc2 h
    refine lv_iload_n hx hb dX10_part_16 rfl (lv_at hl 1 rfl) ?_
    refine lv_if_ne (tgt := 27) hx hb dX10_part_17 (by decide) (fun hc3 => ?_) (fun hc3 => ?_)
    · replace h := gm_neg hc3 h
      refine lv_aload_n hx hb dX10_part_27 rfl (lv_at hl 0 rfl) ?_
      refine gm_get (ci := 10) C0 hH inX10_part_X10 0 12 2 rfl rfl (by decide) rfl rfl dX10_part_28 ?_
      obtain rfl := Option.some.inj h
      exact gm_lret C0 hH dX10_part_31
    · replace h := gm_pos hc3 h
      refine lv_aload_n hx hb dX10_part_20 rfl (lv_at hl 0 rfl) ?_
      refine gm_get (ci := 10) C0 hH inX10_part_X10 0 11 1 rfl rfl (by decide) rfl rfl dX10_part_21 ?_
      refine lv_goto (tgt := 31) hx hb dX10_part_24 (by decide) ?_
      obtain rfl := Option.some.inj h
      exact gm_lret C0 hH dX10_part_31
  · replace h := gm_pos hc2 h
    refine lv_aload_n hx hb dX10_part_8 rfl (lv_at hl 0 rfl) ?_
    refine lv_bipush (v := (-2)) hx hb dX10_part_9 (by decide) ?_
    obtain ⟨o4, ho4, h⟩ := gm_bind_e h
    refine gm_callV (As := [.int (-2)]) (rest := []) (n := 1) (ci := 10) (q0 := 0) C0 hH (mX10_refuse l dC dI  q q_now q_draft q_images q_kinds q_text q_duel q_cover q_clashes q_tally q_sayableByPair q_chosenPairs m_imagesKept m_bads m_nos m_fulls m_above m_below ((-2))   ho4) gX10_part_X10_refuse rfl (by decide +kernel) ⟨rfl, rfl, Nat.le_of_ble_eq_true rfl, Nat.le_of_ble_eq_true rfl⟩ gm_T_ok (fun _ => trivial) [0] rfl rfl rfl [] rfl rfl rfl rfl hl.1 rfl (Nat.le_of_ble_eq_true rfl) dX10_part_11 ⟨Nat.zero_le _, Nat.zero_le _⟩ (fun H locs hH => ?_)
    have hH : gm_H (dC, dI) A s (wX10_part  q q_now q_draft q_images q_kinds q_text q_duel q_cover q_clashes q_tally q_sayableByPair q_chosenPairs m_imagesKept o4.2.1 o4.2.2.1 o4.2.2.2 m_above m_below) H locs := hH
    refine lv_i2l hx hb dX10_part_14 rfl ?_
    obtain rfl := Option.some.inj h
    exact gm_lret C0 hH dX10_part_15
