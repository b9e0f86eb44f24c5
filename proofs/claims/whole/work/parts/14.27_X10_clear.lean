/-! X10_clear -/
abbrev wX10_clear (q q_text q_now q_draft q_images q_kinds q_duel q_cover q_clashes q_tally q_sayableByPair q_chosenPairs q_text_bytes : Nat) (m_imagesKept : Int32) (m_bads : Int32) (m_nos : Int32) (m_fulls : Int32) (m_above : Int64) (m_below : Int64) (m_text_length : Int32) (m_text_items : Int32) (m_text_place : Int32) (m_text_start : Int32) (m_text_token : Int32) (m_text_number : Int32) : va_W := [(q, .inr (10, [.ref q_now, .ref q_draft, .ref q_images, .int m_imagesKept, .ref q_kinds, .ref q_text, .ref q_duel, .ref q_cover, .int m_bads, .int m_nos, .int m_fulls, .long m_above, .long m_below, .ref q_clashes, .ref q_tally, .ref q_sayableByPair, .ref q_chosenPairs])), (q_text, .inr (6, [.ref q_text_bytes, .int m_text_length, .int m_text_items, .int m_text_place, .int m_text_start, .int m_text_token, .int m_text_number]))]
abbrev rX10_clear : Room := { frames := 0, cells := 0, slots := 0, locals := 0 }
def fX10_clear (N : Nat) (m_text_length : Int32)  : Option (Int32 × Int32) := some (m_text_length, 0)
set_option maxRecDepth 20000 in
theorem inX10_clear_X10 : ∀ w ∈ u_ws RX10 TX10 17, w ∈ wsX10_clear := fun w h => by
  obtain ⟨k, hk, rfl⟩ := List.mem_map.mp h
  have hk2 := List.mem_range.mp hk
  exact List.mem_of_getElem? (i := 3 + k) (by rcases (show k = 0 ∨ k = 1 ∨ k = 2 ∨ k = 3 ∨ k = 4 ∨ k = 5 ∨ k = 6 ∨ k = 7 ∨ k = 8 ∨ k = 9 ∨ k = 10 ∨ k = 11 ∨ k = 12 ∨ k = 13 ∨ k = 14 ∨ k = 15 ∨ k = 16 by omega) with rfl | rfl | rfl | rfl | rfl | rfl | rfl | rfl | rfl | rfl | rfl | rfl | rfl | rfl | rfl | rfl | rfl <;> rfl)
set_option maxRecDepth 20000 in
theorem inX10_clear_X6 : ∀ w ∈ u_ws RX6 TX6 7, w ∈ wsX10_clear := fun w h => by
  obtain ⟨k, hk, rfl⟩ := List.mem_map.mp h
  have hk2 := List.mem_range.mp hk
  exact List.mem_of_getElem? (i := 20 + k) (by rcases (show k = 0 ∨ k = 1 ∨ k = 2 ∨ k = 3 ∨ k = 4 ∨ k = 5 ∨ k = 6 by omega) with rfl | rfl | rfl | rfl | rfl | rfl | rfl <;> rfl)
set_option maxRecDepth 100000 in
set_option maxHeartbeats 4000000 in
theorem mX10_clear (l : Launch) (dC : Nat → ClassId) (dI : Nat → Nat → Nat) (q q_text q_now q_draft q_images q_kinds q_duel q_cover q_clashes q_tally q_sayableByPair q_chosenPairs q_text_bytes : Nat) (m_imagesKept : Int32) (m_bads : Int32) (m_nos : Int32) (m_fulls : Int32) (m_above : Int64) (m_below : Int64) (m_text_length : Int32) (m_text_items : Int32) (m_text_place : Int32) (m_text_start : Int32) (m_text_token : Int32) (m_text_number : Int32)   {N : Nat} {out : Int32 × Int32} (h : fX10_clear N m_text_length = some out) : gm_Met l yX10_clear wsX10_clear rX10_clear (dC, dI) [] gm_T [.ref q] (wX10_clear  q q_text q_now q_draft q_images q_kinds q_duel q_cover q_clashes q_tally q_sayableByPair q_chosenPairs q_text_bytes m_imagesKept m_bads m_nos m_fulls m_above m_below m_text_length m_text_items m_text_place m_text_start m_text_token m_text_number) (some (.int out.1)) (wX10_clear  q q_text q_now q_draft q_images q_kinds q_duel q_cover q_clashes q_tally q_sayableByPair q_chosenPairs q_text_bytes m_imagesKept m_bads m_nos m_fulls m_above m_below out.2 m_text_items m_text_place m_text_start m_text_token m_text_number) := by
  refine gm_ofW (cc := cX10_clear) (maxL := 2) (ret := (some .int)) (by decide +kernel) rfl (Nat.le_of_ble_eq_true rfl) ?_
  intro p e s m below meth c A C0 hH ls hl
  generalize ([.ref q] : List Value).toArray = args at C0 ⊢
  have hl : lv_has ls 2 [(0, .ref q)] := hl
  generalize s.heap = H at hH ⊢
  generalize ([] : List Loc) = locs at hH ⊢
  obtain ⟨hx, hb, hml, hr, hown, hts, hA, hK, hX, hlocks⟩ := id C0
  unfold fX10_clear at h
  refine lv_aload_n hx hb dX10_clear_0 rfl (lv_at hl 0 rfl) ?_
  refine gm_get (ci := 10) C0 hH inX10_clear_X10 0 5 1 rfl rfl (by decide) rfl rfl dX10_clear_1 ?_
  refine gm_get (ci := 6) C0 hH inX10_clear_X6 1 1 2 rfl rfl (by decide) rfl rfl dX10_clear_4 ?_
  refine lv_istore_n (lv' := [(1, .int m_text_length), (0, .ref q)]) hx hb dX10_clear_7 rfl hl (by decide) rfl (fun ls hl => ?_)
  refine lv_aload_n hx hb dX10_clear_8 rfl (lv_at hl 1 rfl) ?_
  refine gm_get (ci := 10) C0 hH inX10_clear_X10 0 5 1 rfl rfl (by decide) rfl rfl dX10_clear_9 ?_
  refine lv_iconst (v := 0) hx hb dX10_clear_12 (by decide) ?_
  refine gm_putf (ci := 6) C0 hH inX10_clear_X6 tyX6_ok nmX6 1 1 2 rfl rfl (by decide) rfl rfl rfl rfl rfl (Nat.le_of_ble_eq_true rfl) dX10_clear_13 (fun H locs hH => ?_)
  have hH : gm_H (dC, dI) A s (wX10_clear  q q_text q_now q_draft q_images q_kinds q_duel q_cover q_clashes q_tally q_sayableByPair q_chosenPairs q_text_bytes m_imagesKept m_bads m_nos m_fulls m_above m_below 0 m_text_items m_text_place m_text_start m_text_token m_text_number) H locs := hH
  refine lv_iload_n hx hb dX10_clear_16 rfl (lv_at hl 0 rfl) ?_
  obtain rfl := Option.some.inj h
  exact gm_iret C0 hH dX10_clear_17
