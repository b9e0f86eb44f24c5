/-! X10_howMany -/
abbrev wX10_howMany (cI : ClassId) (q q_now q_now_alikeTo q_text q_draft q_images q_kinds q_duel q_cover q_clashes q_tally q_sayableByPair q_chosenPairs q_now_ending q_now_meaning q_now_cost q_now_kind q_now_want q_now_saidAhead q_now_heardWord q_now_heardAnswer q_text_bytes : Nat) (m_imagesKept : Int32) (m_bads : Int32) (m_nos : Int32) (m_fulls : Int32) (m_above : Int64) (m_below : Int64) (m_now_words : Int32) (m_now_people : Int32) (m_now_said : Int32) (m_now_undos : Int32) (m_now_heard : Int32) (m_now_alikeTo : Nat → Int32) (m_text_length : Int32) (m_text_items : Int32) (m_text_place : Int32) (m_text_start : Int32) (m_text_token : Int32) (m_text_number : Int32) : va_W := [(q, .inr (10, [.ref q_now, .ref q_draft, .ref q_images, .int m_imagesKept, .ref q_kinds, .ref q_text, .ref q_duel, .ref q_cover, .int m_bads, .int m_nos, .int m_fulls, .long m_above, .long m_below, .ref q_clashes, .ref q_tally, .ref q_sayableByPair, .ref q_chosenPairs])), (q_now, .inr (9, [.ref q_now_ending, .ref q_now_meaning, .ref q_now_cost, .int m_now_words, .ref q_now_alikeTo, .ref q_now_kind, .ref q_now_want, .int m_now_people, .int m_now_said, .ref q_now_saidAhead, .int m_now_undos, .ref q_now_heardWord, .ref q_now_heardAnswer, .int m_now_heard])), (q_now_alikeTo, .inl (cI, 8, .inl m_now_alikeTo)), (q_text, .inr (6, [.ref q_text_bytes, .int m_text_length, .int m_text_items, .int m_text_place, .int m_text_start, .int m_text_token, .int m_text_number]))]
abbrev rX10_howMany : Room := { frames := 2, cells := 0, slots := 0, locals := 42 }
def fX10_howMany (N : Nat) (m_now_words : Int32) (m_now_people : Int32) (m_now_said : Int32) (m_now_undos : Int32) (m_now_heard : Int32) (m_now_alikeTo : Nat → Int32) (m_text_length : Int32) (x1 : Int32) : Option (Int32) := (if x1 = 0 then some (m_now_words) else (if x1 = 1 then some (m_now_people) else (if x1 = 2 then gm_bind (fX9_alikePairs N m_now_alikeTo) (fun o2 => some (o2)) else (if x1 = 3 then gm_bind (fJ6_bitCount_0f7a4 N m_now_said) (fun o3 => some (o3)) else (if x1 = 4 then some (m_now_heard) else (if x1 = 5 then some (m_now_undos) else some (m_text_length)))))))
set_option maxRecDepth 20000 in
theorem inX10_howMany_X10 : ∀ w ∈ u_ws RX10 TX10 17, w ∈ wsX10_howMany := fun w h => by
  obtain ⟨k, hk, rfl⟩ := List.mem_map.mp h
  have hk2 := List.mem_range.mp hk
  exact List.mem_of_getElem? (i := 23 + k) (by rcases (show k = 0 ∨ k = 1 ∨ k = 2 ∨ k = 3 ∨ k = 4 ∨ k = 5 ∨ k = 6 ∨ k = 7 ∨ k = 8 ∨ k = 9 ∨ k = 10 ∨ k = 11 ∨ k = 12 ∨ k = 13 ∨ k = 14 ∨ k = 15 ∨ k = 16 by omega) with rfl | rfl | rfl | rfl | rfl | rfl | rfl | rfl | rfl | rfl | rfl | rfl | rfl | rfl | rfl | rfl | rfl <;> rfl)
set_option maxRecDepth 20000 in
theorem inX10_howMany_X6 : ∀ w ∈ u_ws RX6 TX6 7, w ∈ wsX10_howMany := fun w h => by
  obtain ⟨k, hk, rfl⟩ := List.mem_map.mp h
  have hk2 := List.mem_range.mp hk
  exact List.mem_of_getElem? (i := 54 + k) (by rcases (show k = 0 ∨ k = 1 ∨ k = 2 ∨ k = 3 ∨ k = 4 ∨ k = 5 ∨ k = 6 by omega) with rfl | rfl | rfl | rfl | rfl | rfl | rfl <;> rfl)
set_option maxRecDepth 20000 in
theorem inX10_howMany_X9 : ∀ w ∈ u_ws RX9 TX9 14, w ∈ wsX10_howMany := fun w h => by
  obtain ⟨k, hk, rfl⟩ := List.mem_map.mp h
  have hk2 := List.mem_range.mp hk
  exact List.mem_of_getElem? (i := 40 + k) (by rcases (show k = 0 ∨ k = 1 ∨ k = 2 ∨ k = 3 ∨ k = 4 ∨ k = 5 ∨ k = 6 ∨ k = 7 ∨ k = 8 ∨ k = 9 ∨ k = 10 ∨ k = 11 ∨ k = 12 ∨ k = 13 by omega) with rfl | rfl | rfl | rfl | rfl | rfl | rfl | rfl | rfl | rfl | rfl | rfl | rfl | rfl <;> rfl)
set_option maxRecDepth 100000 in
set_option maxHeartbeats 4000000 in
theorem mX10_howMany (l : Launch) (dC : Nat → ClassId) (dI : Nat → Nat → Nat) (cI : ClassId) (q q_now q_now_alikeTo q_text q_draft q_images q_kinds q_duel q_cover q_clashes q_tally q_sayableByPair q_chosenPairs q_now_ending q_now_meaning q_now_cost q_now_kind q_now_want q_now_saidAhead q_now_heardWord q_now_heardAnswer q_text_bytes : Nat) (m_imagesKept : Int32) (m_bads : Int32) (m_nos : Int32) (m_fulls : Int32) (m_above : Int64) (m_below : Int64) (m_now_words : Int32) (m_now_people : Int32) (m_now_said : Int32) (m_now_undos : Int32) (m_now_heard : Int32) (m_now_alikeTo : Nat → Int32) (m_text_length : Int32) (m_text_items : Int32) (m_text_place : Int32) (m_text_start : Int32) (m_text_token : Int32) (m_text_number : Int32) (x1 : Int32)  {N : Nat} {out : Int32} (h : fX10_howMany N m_now_words m_now_people m_now_said m_now_undos m_now_heard m_now_alikeTo m_text_length x1 = some out) : gm_Met l yX10_howMany wsX10_howMany rX10_howMany (dC, dI) [(cI, .int)] gm_T [.ref q, .int x1] (wX10_howMany cI q q_now q_now_alikeTo q_text q_draft q_images q_kinds q_duel q_cover q_clashes q_tally q_sayableByPair q_chosenPairs q_now_ending q_now_meaning q_now_cost q_now_kind q_now_want q_now_saidAhead q_now_heardWord q_now_heardAnswer q_text_bytes m_imagesKept m_bads m_nos m_fulls m_above m_below m_now_words m_now_people m_now_said m_now_undos m_now_heard m_now_alikeTo m_text_length m_text_items m_text_place m_text_start m_text_token m_text_number) (some (.int out)) (wX10_howMany cI q q_now q_now_alikeTo q_text q_draft q_images q_kinds q_duel q_cover q_clashes q_tally q_sayableByPair q_chosenPairs q_now_ending q_now_meaning q_now_cost q_now_kind q_now_want q_now_saidAhead q_now_heardWord q_now_heardAnswer q_text_bytes m_imagesKept m_bads m_nos m_fulls m_above m_below m_now_words m_now_people m_now_said m_now_undos m_now_heard m_now_alikeTo m_text_length m_text_items m_text_place m_text_start m_text_token m_text_number) := by
  refine gm_ofW (cc := cX10_howMany) (maxL := 2) (ret := (some .int)) (by decide +kernel) rfl (Nat.le_of_ble_eq_true rfl) ?_
  intro p e s m below meth c A C0 hH ls hl
  generalize ([.ref q, .int x1] : List Value).toArray = args at C0 ⊢
  have hl : lv_has ls 2 [(0, .ref q), (1, .int x1)] := hl
  generalize s.heap = H at hH ⊢
  generalize ([] : List Loc) = locs at hH ⊢
  obtain ⟨hx, hb, hml, hr, hown, hts, hA, hK, hX, hlocks⟩ := id C0
  unfold fX10_howMany at h
  refine lv_iload_n hx hb dX10_howMany_0 rfl (lv_at hl 1 rfl) ?_
  by_cases hs1_0 : x1 = 0
  · replace h := gm_pos hs1_0 h
    refine lv_tableIn (tgt := 40) (off := 39) hx hb dX10_howMany_1 (by rw [hs1_0]; decide) (by rw [hs1_0]; decide) (by rw [hs1_0]; decide) (by decide) ?_
    refine lv_aload_n hx hb dX10_howMany_40 rfl (lv_at hl 0 rfl) ?_
    refine gm_get (ci := 10) C0 hH inX10_howMany_X10 0 0 1 rfl rfl (by decide) rfl rfl dX10_howMany_41 ?_
    refine gm_get (ci := 9) C0 hH inX10_howMany_X9 1 3 2 rfl rfl (by decide) rfl rfl dX10_howMany_44 ?_
    obtain rfl := Option.some.inj h
    exact gm_iret C0 hH dX10_howMany_47
  · replace h := gm_neg hs1_0 h
    by_cases hs1_1 : x1 = 1
    · replace h := gm_pos hs1_1 h
      refine lv_tableIn (tgt := 48) (off := 47) hx hb dX10_howMany_1 (by rw [hs1_1]; decide) (by rw [hs1_1]; decide) (by rw [hs1_1]; decide) (by decide) ?_
      refine lv_aload_n hx hb dX10_howMany_48 rfl (lv_at hl 0 rfl) ?_
      refine gm_get (ci := 10) C0 hH inX10_howMany_X10 0 0 1 rfl rfl (by decide) rfl rfl dX10_howMany_49 ?_
      refine gm_get (ci := 9) C0 hH inX10_howMany_X9 1 7 3 rfl rfl (by decide) rfl rfl dX10_howMany_52 ?_
      obtain rfl := Option.some.inj h
      exact gm_iret C0 hH dX10_howMany_55
    · replace h := gm_neg hs1_1 h
      by_cases hs1_2 : x1 = 2
      · replace h := gm_pos hs1_2 h
        refine lv_tableIn (tgt := 56) (off := 55) hx hb dX10_howMany_1 (by rw [hs1_2]; decide) (by rw [hs1_2]; decide) (by rw [hs1_2]; decide) (by decide) ?_
        refine lv_aload_n hx hb dX10_howMany_56 rfl (lv_at hl 0 rfl) ?_
        refine gm_get (ci := 10) C0 hH inX10_howMany_X10 0 0 1 rfl rfl (by decide) rfl rfl dX10_howMany_57 ?_
        obtain ⟨o2, ho2, h⟩ := gm_bind_e h
        refine gm_callV (As := []) (rest := []) (n := 0) (ci := 9) (q0 := 1) C0 hH (mX9_alikePairs l dC dI cI q_now q_now_alikeTo q_now_ending q_now_meaning q_now_cost q_now_kind q_now_want q_now_saidAhead q_now_heardWord q_now_heardAnswer m_now_words m_now_people m_now_said m_now_undos m_now_heard m_now_alikeTo    ho2) gX10_howMany_X9_alikePairs rfl (by decide +kernel) ⟨rfl, rfl, Nat.le_of_ble_eq_true rfl, Nat.le_of_ble_eq_true rfl⟩ gm_T_ok (fun _ => trivial) [1, 2] rfl rfl rfl [0] rfl rfl rfl rfl hl.1 rfl (Nat.le_of_ble_eq_true rfl) dX10_howMany_60 ⟨Nat.zero_le _, Nat.zero_le _⟩ (fun H locs hH => ?_)
        have hH : gm_H (dC, dI) A s (wX10_howMany cI q q_now q_now_alikeTo q_text q_draft q_images q_kinds q_duel q_cover q_clashes q_tally q_sayableByPair q_chosenPairs q_now_ending q_now_meaning q_now_cost q_now_kind q_now_want q_now_saidAhead q_now_heardWord q_now_heardAnswer q_text_bytes m_imagesKept m_bads m_nos m_fulls m_above m_below m_now_words m_now_people m_now_said m_now_undos m_now_heard m_now_alikeTo m_text_length m_text_items m_text_place m_text_start m_text_token m_text_number) H locs := hH
        obtain rfl := Option.some.inj h
        exact gm_iret C0 hH dX10_howMany_63
      · replace h := gm_neg hs1_2 h
        by_cases hs1_3 : x1 = 3
        · replace h := gm_pos hs1_3 h
          refine lv_tableIn (tgt := 64) (off := 63) hx hb dX10_howMany_1 (by rw [hs1_3]; decide) (by rw [hs1_3]; decide) (by rw [hs1_3]; decide) (by decide) ?_
          refine lv_aload_n hx hb dX10_howMany_64 rfl (lv_at hl 0 rfl) ?_
          refine gm_get (ci := 10) C0 hH inX10_howMany_X10 0 0 1 rfl rfl (by decide) rfl rfl dX10_howMany_65 ?_
          refine gm_get (ci := 9) C0 hH inX10_howMany_X9 1 8 4 rfl rfl (by decide) rfl rfl dX10_howMany_68 ?_
          obtain ⟨o3, ho3, h⟩ := gm_bind_e h
          refine gm_callS (As := [.int m_now_said]) (rest := []) (n := 1) C0 hH (mJ6_bitCount_0f7a4 l dC dI    m_now_said   ho3) gX10_howMany_J6_bitCount_0f7a4 rfl (by decide +kernel) ⟨rfl, rfl, Nat.le_of_ble_eq_true rfl, Nat.le_of_ble_eq_true rfl⟩ gm_T_ok (fun _ => trivial) [] rfl rfl rfl [] rfl rfl hl.1 rfl (Nat.le_of_ble_eq_true rfl) dX10_howMany_71 ⟨Nat.zero_le _, Nat.zero_le _⟩ (fun H locs hH => ?_)
          have hH : gm_H (dC, dI) A s (wX10_howMany cI q q_now q_now_alikeTo q_text q_draft q_images q_kinds q_duel q_cover q_clashes q_tally q_sayableByPair q_chosenPairs q_now_ending q_now_meaning q_now_cost q_now_kind q_now_want q_now_saidAhead q_now_heardWord q_now_heardAnswer q_text_bytes m_imagesKept m_bads m_nos m_fulls m_above m_below m_now_words m_now_people m_now_said m_now_undos m_now_heard m_now_alikeTo m_text_length m_text_items m_text_place m_text_start m_text_token m_text_number) H locs := hH
          obtain rfl := Option.some.inj h
          exact gm_iret C0 hH dX10_howMany_74
        · replace h := gm_neg hs1_3 h
          by_cases hs1_4 : x1 = 4
          · replace h := gm_pos hs1_4 h
            refine lv_tableIn (tgt := 75) (off := 74) hx hb dX10_howMany_1 (by rw [hs1_4]; decide) (by rw [hs1_4]; decide) (by rw [hs1_4]; decide) (by decide) ?_
            refine lv_aload_n hx hb dX10_howMany_75 rfl (lv_at hl 0 rfl) ?_
            refine gm_get (ci := 10) C0 hH inX10_howMany_X10 0 0 1 rfl rfl (by decide) rfl rfl dX10_howMany_76 ?_
            refine gm_get (ci := 9) C0 hH inX10_howMany_X9 1 13 5 rfl rfl (by decide) rfl rfl dX10_howMany_79 ?_
            obtain rfl := Option.some.inj h
            exact gm_iret C0 hH dX10_howMany_82
          · replace h := gm_neg hs1_4 h
            by_cases hs1_5 : x1 = 5
            · replace h := gm_pos hs1_5 h
              refine lv_tableIn (tgt := 83) (off := 82) hx hb dX10_howMany_1 (by rw [hs1_5]; decide) (by rw [hs1_5]; decide) (by rw [hs1_5]; decide) (by decide) ?_
              refine lv_aload_n hx hb dX10_howMany_83 rfl (lv_at hl 0 rfl) ?_
              refine gm_get (ci := 10) C0 hH inX10_howMany_X10 0 0 1 rfl rfl (by decide) rfl rfl dX10_howMany_84 ?_
              refine gm_get (ci := 9) C0 hH inX10_howMany_X9 1 10 6 rfl rfl (by decide) rfl rfl dX10_howMany_87 ?_
              obtain rfl := Option.some.inj h
              exact gm_iret C0 hH dX10_howMany_90
            · replace h := gm_neg hs1_5 h
              refine lv_tableOut (tgt := 91) hx hb dX10_howMany_1 (by have hj0 := lv_neT hs1_0 (a := 0) rfl; have hj1 := lv_neT hs1_1 (a := 1) rfl; have hj2 := lv_neT hs1_2 (a := 2) rfl; have hj3 := lv_neT hs1_3 (a := 3) rfl; have hj4 := lv_neT hs1_4 (a := 4) rfl; have hj5 := lv_neT hs1_5 (a := 5) rfl; omega) (by decide) ?_
              refine lv_aload_n hx hb dX10_howMany_91 rfl (lv_at hl 0 rfl) ?_
              refine gm_get (ci := 10) C0 hH inX10_howMany_X10 0 5 7 rfl rfl (by decide) rfl rfl dX10_howMany_92 ?_
              refine gm_get (ci := 6) C0 hH inX10_howMany_X6 3 1 8 rfl rfl (by decide) rfl rfl dX10_howMany_95 ?_
              obtain rfl := Option.some.inj h
              exact gm_iret C0 hH dX10_howMany_98
