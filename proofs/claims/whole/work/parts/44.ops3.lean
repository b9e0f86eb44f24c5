set_option maxHeartbeats 4000000 in
theorem sim_tongue {N : Nat} (hN : 3000 ≤ N) : S_tongue N gm_R := by
  intro m_imagesKept m_bads m_nos m_fulls m_above m_below m_now_words m_now_people m_now_said m_now_undos m_now_heard m_now_ending m_now_meaning m_now_cost m_now_alikeTo m_now_kind m_now_want m_now_saidAhead m_now_heardWord m_now_heardAnswer m_draft_words m_draft_people m_draft_said m_draft_undos m_draft_heard m_draft_ending m_draft_meaning m_draft_cost m_draft_alikeTo m_draft_kind m_draft_want m_draft_saidAhead m_draft_heardWord m_draft_heardAnswer m_images_0_words m_images_0_people m_images_0_said m_images_0_undos m_images_0_heard m_images_0_ending m_images_0_meaning m_images_0_cost m_images_0_alikeTo m_images_0_kind m_images_0_want m_images_0_saidAhead m_images_0_heardWord m_images_0_heardAnswer m_images_1_words m_images_1_people m_images_1_said m_images_1_undos m_images_1_heard m_images_1_ending m_images_1_meaning m_images_1_cost m_images_1_alikeTo m_images_1_kind m_images_1_want m_images_1_saidAhead m_images_1_heardWord m_images_1_heardAnswer m_text_length m_text_items m_text_place m_text_start m_text_token m_text_number m_text_bytes m_duel_words m_duel_saidAtFirst m_duel_asked m_duel_longest m_duel_shortest m_duel_chimesOfFirst m_duel_chimesOfSecond m_duel_lasts m_cover_sayable m_cover_price m_cover_covered m_cover_spent m_clashes m_tally m_sayableByPair m_chosenPairs n_thrown n_size n_at n_start n_token n_value n_faultAt n_allowed n_firstPair n_secondPair n_above n_below n_refused n_tongue n_fresh n_kept n_isKept n_text n_said n_talk hR _
  obtain ⟨hT, hX, hF, hA, hI, hC⟩ := hR
  obtain ⟨w, p, u, h, en, mn, cn, kn, wn, ⟨hw, hp, hu8, hh6⟩, ⟨rfl, rfl, rfl, rfl⟩, hrE, hrP, hr2, hco, hE, hM, hP, hs, hir, hh, hu, hsd⟩ := hT
  obtain ⟨al, ha1, ha2⟩ := s_empty (N := N) (by omega) (nI w) (nI p) m_now_said (nI u) (nI h) m_now_alikeTo
  obtain ⟨f, hf1, hf2⟩ := s_Mtongue (N := N) (by omega) n_thrown n_tongue
  have h1 : fX10_tongue N (nI w) (nI p) m_now_said (nI u) (nI h) m_now_alikeTo = some (nI w, 0, 0, 0, 0, 0, al) := by
    unfold fX10_tongue
    rw [ha1, gm_bind_s]
  exact ⟨_, _, h1, hf1, hrE.1.symm, RT_0 ha2 hf2, hX, hF, hA, hI, hC⟩

set_option maxHeartbeats 4000000 in
theorem sim_rest {N : Nat} (hN : 3000 ≤ N) : S_rest N gm_R := by
  intro m_imagesKept m_bads m_nos m_fulls m_above m_below m_now_words m_now_people m_now_said m_now_undos m_now_heard m_now_ending m_now_meaning m_now_cost m_now_alikeTo m_now_kind m_now_want m_now_saidAhead m_now_heardWord m_now_heardAnswer m_draft_words m_draft_people m_draft_said m_draft_undos m_draft_heard m_draft_ending m_draft_meaning m_draft_cost m_draft_alikeTo m_draft_kind m_draft_want m_draft_saidAhead m_draft_heardWord m_draft_heardAnswer m_images_0_words m_images_0_people m_images_0_said m_images_0_undos m_images_0_heard m_images_0_ending m_images_0_meaning m_images_0_cost m_images_0_alikeTo m_images_0_kind m_images_0_want m_images_0_saidAhead m_images_0_heardWord m_images_0_heardAnswer m_images_1_words m_images_1_people m_images_1_said m_images_1_undos m_images_1_heard m_images_1_ending m_images_1_meaning m_images_1_cost m_images_1_alikeTo m_images_1_kind m_images_1_want m_images_1_saidAhead m_images_1_heardWord m_images_1_heardAnswer m_text_length m_text_items m_text_place m_text_start m_text_token m_text_number m_text_bytes m_duel_words m_duel_saidAtFirst m_duel_asked m_duel_longest m_duel_shortest m_duel_chimesOfFirst m_duel_chimesOfSecond m_duel_lasts m_cover_sayable m_cover_price m_cover_covered m_cover_spent m_clashes m_tally m_sayableByPair m_chosenPairs n_thrown n_size n_at n_start n_token n_value n_faultAt n_allowed n_firstPair n_secondPair n_above n_below n_refused n_tongue n_fresh n_kept n_isKept n_text n_said n_talk hR _
  obtain ⟨hT, hX, hF, hA, hI, hC⟩ := hR
  have hT0 := hT
  obtain ⟨w, p, u, h, en, mn, cn, kn, wn, ⟨hw, hp, hu8, hh6⟩, hq, hrE, hrP, hr2, hco, hE, hM, hP, hs, hir, hh, hu, ⟨v, hv, rfl⟩⟩ := hT
  have h1 : fX10_rest N (nI v) m_now_undos = some (bc (nI v), 0, 0) := by
    unfold fX10_rest
    rw [s_bitCount, gm_bind_s]
  have h2 : fX11_rest N n_thrown n_tongue = some (sm (nI v) 10, 0, upd (upd n_tongue 2 0) 4 0) := by
    unfold fX11_rest
    rw [ck2 (by decide), cl2, hr2.1, s_bits (by omega), gm_bind_s, ck2 (by decide), ck4 (by decide), cl4]
  have hT2 := RT_su hT0 (said' := 0) (undos' := 0) (sa' := m_now_saidAhead) (f' := upd (upd n_tongue 2 0) 4 0) (fun k h2 h4 _ => by rw [upd_n h4, upd_n h2]) (by rw [upd_n (by decide), upd_s]) upd_s (u' := 0) (by omega) rfl (fun w _ _ => ⟨fun j hj => absurd hj (Nat.not_lt_zero j), 0, Nat.pow_pos (by decide), rfl⟩)
  exact ⟨_, _, h1, h2, bc_sm2 hw hv, hT2, hX, hF, hA, hI, hC⟩

set_option maxHeartbeats 4000000 in
theorem sim_undo {N : Nat} (hN : 3000 ≤ N) : S_undo N gm_R := by
  intro m_imagesKept m_bads m_nos m_fulls m_above m_below m_now_words m_now_people m_now_said m_now_undos m_now_heard m_now_ending m_now_meaning m_now_cost m_now_alikeTo m_now_kind m_now_want m_now_saidAhead m_now_heardWord m_now_heardAnswer m_draft_words m_draft_people m_draft_said m_draft_undos m_draft_heard m_draft_ending m_draft_meaning m_draft_cost m_draft_alikeTo m_draft_kind m_draft_want m_draft_saidAhead m_draft_heardWord m_draft_heardAnswer m_images_0_words m_images_0_people m_images_0_said m_images_0_undos m_images_0_heard m_images_0_ending m_images_0_meaning m_images_0_cost m_images_0_alikeTo m_images_0_kind m_images_0_want m_images_0_saidAhead m_images_0_heardWord m_images_0_heardAnswer m_images_1_words m_images_1_people m_images_1_said m_images_1_undos m_images_1_heard m_images_1_ending m_images_1_meaning m_images_1_cost m_images_1_alikeTo m_images_1_kind m_images_1_want m_images_1_saidAhead m_images_1_heardWord m_images_1_heardAnswer m_text_length m_text_items m_text_place m_text_start m_text_token m_text_number m_text_bytes m_duel_words m_duel_saidAtFirst m_duel_asked m_duel_longest m_duel_shortest m_duel_chimesOfFirst m_duel_chimesOfSecond m_duel_lasts m_cover_sayable m_cover_price m_cover_covered m_cover_spent m_clashes m_tally m_sayableByPair m_chosenPairs n_thrown n_size n_at n_start n_token n_value n_faultAt n_allowed n_firstPair n_secondPair n_above n_below n_refused n_tongue n_fresh n_kept n_isKept n_text n_said n_talk hR _
  obtain ⟨hT, hX, hF, hA, hI, hC⟩ := hR
  have hT0 := hT
  obtain ⟨w, p, u, h, en, mn, cn, kn, wn, ⟨hw, hp, hu8, hh6⟩, ⟨hq1, hq2, rfl, hq4⟩, hrE, hrP, hr2, hco, hE, hM, hP, hs, hir, hh, hu, hsd⟩ := hT
  rcases Nat.eq_zero_or_pos u with h0 | h0
  · subst h0
    have h1 : fX10_undo N m_bads m_nos m_fulls m_now_said (nI 0) m_now_saidAhead = some (-3, m_bads, m_nos + 1, m_fulls, m_now_said, nI 0) := by
      unfold fX10_undo
      rw [if_pos (by decide), s_refN, gm_bind_s]
    have h2 : fX11_undo N n_thrown n_refused n_tongue = some (-3, 0, upd n_refused 1 (n_refused 1 + 1), n_tongue) := by
      unfold fX11_undo
      rw [ck4 (by decide), cl4, hr2.2.2, if_pos (by decide), s_no, gm_bind_s]
    exact ⟨_, _, h1, h2, rfl, hT0, hX, RFn hF, hA, hI, hC⟩
  · obtain ⟨hf, v, hv, hsv⟩ := hu (u - 1) (by omega)
    have h1 : fX10_undo N m_bads m_nos m_fulls m_now_said (nI u) m_now_saidAhead = some (bc (nI v), m_bads, m_nos, m_fulls, nI v, nI (u - 1)) := by
      unfold fX10_undo fX9_takeBack
      rw [if_neg (nI_ne0 h0 (by omega)), if_neg (nI_nle h0 (by omega)), gm_let_s, nI_m1 h0, gm_chk_n (by omega) (by decide), gm_let_s, cl_n (by omega), hsv, gm_bind_s, s_bitCount, gm_bind_s]
    have h2 : fX11_undo N n_thrown n_refused n_tongue = some (sm (nI v) 10, 0, n_refused, upd (upd n_tongue 4 (nI (u - 1))) 2 (nI v)) := by
      unfold fX11_undo
      rw [ck4 (by decide), cl4, hr2.2.2, if_neg (nI_ne0 h0 (by omega)), ck4 (by decide), ck4 (by decide), ck4 (by decide), upd_s, nI_m1 h0, ix65, gm_chk_n (by omega) (by decide), ck2 (by decide), ck2 (by decide), cl2, upd_s, cl_n (by omega), upd_n (by omega), hf, hsv, s_bits (by omega), gm_bind_s]
    have hT2 := RT_su hT0 (said' := nI v) (undos' := nI (u - 1)) (sa' := m_now_saidAhead) (f' := upd (upd n_tongue 4 (nI (u - 1))) 2 (nI v)) (fun k h2 h4 _ => by rw [upd_n h2, upd_n h4]) upd_s (by rw [upd_n (by decide), upd_s]) (u' := u - 1) (by omega) rfl (fun w' e1 e2 => by
      have : w' = w := (nI_eq (by omega) (by omega)).mp (e1.symm.trans hq1)
      subst this
      exact ⟨fun j hj => ⟨by rw [upd_n (by omega), upd_n (by omega)]; exact (hu j (by omega)).1, (hu j (by omega)).2⟩, v, hv, rfl⟩)
    exact ⟨_, _, h1, h2, bc_sm2 hw hv, hT2, hX, hF, hA, hI, hC⟩

set_option maxHeartbeats 4000000 in
theorem sim_type {N : Nat} (hN : 3000 ≤ N) : S_type N gm_R := by
  intro m_imagesKept m_bads m_nos m_fulls m_above m_below m_now_words m_now_people m_now_said m_now_undos m_now_heard m_now_ending m_now_meaning m_now_cost m_now_alikeTo m_now_kind m_now_want m_now_saidAhead m_now_heardWord m_now_heardAnswer m_draft_words m_draft_people m_draft_said m_draft_undos m_draft_heard m_draft_ending m_draft_meaning m_draft_cost m_draft_alikeTo m_draft_kind m_draft_want m_draft_saidAhead m_draft_heardWord m_draft_heardAnswer m_images_0_words m_images_0_people m_images_0_said m_images_0_undos m_images_0_heard m_images_0_ending m_images_0_meaning m_images_0_cost m_images_0_alikeTo m_images_0_kind m_images_0_want m_images_0_saidAhead m_images_0_heardWord m_images_0_heardAnswer m_images_1_words m_images_1_people m_images_1_said m_images_1_undos m_images_1_heard m_images_1_ending m_images_1_meaning m_images_1_cost m_images_1_alikeTo m_images_1_kind m_images_1_want m_images_1_saidAhead m_images_1_heardWord m_images_1_heardAnswer m_text_length m_text_items m_text_place m_text_start m_text_token m_text_number m_text_bytes m_duel_words m_duel_saidAtFirst m_duel_asked m_duel_longest m_duel_shortest m_duel_chimesOfFirst m_duel_chimesOfSecond m_duel_lasts m_cover_sayable m_cover_price m_cover_covered m_cover_spent m_clashes m_tally m_sayableByPair m_chosenPairs n_thrown n_size n_at n_start n_token n_value n_faultAt n_allowed n_firstPair n_secondPair n_above n_below n_refused n_tongue n_fresh n_kept n_isKept n_text n_said n_talk hR x1
  obtain ⟨hT, hX, hF, hA, hI, hC⟩ := hR
  obtain ⟨n, hn, rfl, rfl, hb⟩ := hX
  cases hi : inr x1 128 with
  | false =>
    have h1 : fX10_type N m_bads m_nos m_fulls (nI n) m_text_bytes x1 = some (-2, m_bads + 1, m_nos, m_fulls, nI n, m_text_bytes) := by
      unfold fX10_type
      rw [s_fl x1 128 128 rfl (by decide), gm_bind_s, hi, if_pos (by decide), s_refB, gm_bind_s]
    have h2 : fX11_type N n_thrown (nI n) n_refused n_text x1 = some (-2, 0, nI n, upd n_refused 0 (n_refused 0 + 1), n_text) := by
      unfold fX11_type
      rw [s_in (B := 128) x1 127 (by decide), gm_bind_s, hi, if_pos (by decide), s_bad, gm_bind_s]
    exact ⟨_, _, h1, h2, rfl, hT, ⟨n, hn, rfl, rfl, hb⟩, RFb hF, hA, hI, hC⟩
  | true =>
    obtain ⟨v, hv, rfl⟩ := inr_t hi (by decide)
    rcases Nat.lt_or_ge n 150 with hl | hl
    · have h1 : fX10_type N m_bads m_nos m_fulls (nI n) m_text_bytes (nI v) = some (nI (n + 1), m_bads, m_nos, m_fulls, nI (n + 1), upd m_text_bytes n (nI v)) := by
        unfold fX10_type fX6_put
        rw [s_fl (nI v) 128 128 rfl (by decide), gm_bind_s, hi, if_neg (by decide), if_pos (show nI n < 150 from nI_lt (b := 150) hl (by decide)), if_pos (show nI n < 150 from nI_lt (b := 150) hl (by decide)), gm_chk_n hl (by decide), gm_let_s, gm_bind_s, nI_1, cl_n (by omega)]
      have h2 : fX11_type N n_thrown (nI n) n_refused n_text (nI v) = some (nI (n + 1), 0, nI (n + 1), n_refused, upd n_text n (nI v)) := by
        unfold fX11_type
        rw [s_in (B := 128) (nI v) 127 (by decide), gm_bind_s, hi, if_neg (by decide), if_neg (show ¬ nI n = 150 from fun q => by have := (nI_eq (a := n) (b := 150) (by omega) (by decide)).mp q; omega), gm_chk_n hl (by decide), gm_let_s, nI_1, cl_n (by omega)]
      have hX2 : RX (nI (n + 1)) (upd m_text_bytes n (nI v)) (nI (n + 1)) (upd n_text n (nI v)) := by
        refine ⟨n + 1, by omega, rfl, rfl, fun j hj => ?_⟩
        by_cases hjn : j = n
        · subst hjn; exact ⟨by rw [upd_s, upd_s], v, hv, upd_s⟩
        · have := hb j (by omega)
          exact ⟨by rw [upd_n hjn, upd_n hjn]; exact this.1, by obtain ⟨z, hz, ez⟩ := this.2; exact ⟨z, hz, by rw [upd_n hjn]; exact ez⟩⟩
      exact ⟨_, _, h1, h2, rfl, hT, hX2, hF, hA, hI, hC⟩
    · have hn2 : n = 150 := by omega
      subst hn2
      have h1 : fX10_type N m_bads m_nos m_fulls (nI 150) m_text_bytes (nI v) = some (-4, m_bads, m_nos, m_fulls + 1, nI 150, m_text_bytes) := by
        unfold fX10_type
        rw [s_fl (nI v) 128 128 rfl (by decide), gm_bind_s, hi, if_neg (by decide), if_neg (by decide), s_refF, gm_bind_s]
      have h2 : fX11_type N n_thrown (nI 150) n_refused n_text (nI v) = some (-4, 0, nI 150, upd n_refused 2 (n_refused 2 + 1), n_text) := by
        unfold fX11_type
        rw [s_in (B := 128) (nI v) 127 (by decide), gm_bind_s, hi, if_neg (by decide), if_pos (by decide), s_full, gm_bind_s]
      exact ⟨_, _, h1, h2, rfl, hT, ⟨150, hn, rfl, rfl, hb⟩, RFf hF, hA, hI, hC⟩

set_option maxHeartbeats 4000000 in
theorem sim_word {N : Nat} (hN : 3000 ≤ N) : S_word N gm_R := by
  intro m_imagesKept m_bads m_nos m_fulls m_above m_below m_now_words m_now_people m_now_said m_now_undos m_now_heard m_now_ending m_now_meaning m_now_cost m_now_alikeTo m_now_kind m_now_want m_now_saidAhead m_now_heardWord m_now_heardAnswer m_draft_words m_draft_people m_draft_said m_draft_undos m_draft_heard m_draft_ending m_draft_meaning m_draft_cost m_draft_alikeTo m_draft_kind m_draft_want m_draft_saidAhead m_draft_heardWord m_draft_heardAnswer m_images_0_words m_images_0_people m_images_0_said m_images_0_undos m_images_0_heard m_images_0_ending m_images_0_meaning m_images_0_cost m_images_0_alikeTo m_images_0_kind m_images_0_want m_images_0_saidAhead m_images_0_heardWord m_images_0_heardAnswer m_images_1_words m_images_1_people m_images_1_said m_images_1_undos m_images_1_heard m_images_1_ending m_images_1_meaning m_images_1_cost m_images_1_alikeTo m_images_1_kind m_images_1_want m_images_1_saidAhead m_images_1_heardWord m_images_1_heardAnswer m_text_length m_text_items m_text_place m_text_start m_text_token m_text_number m_text_bytes m_duel_words m_duel_saidAtFirst m_duel_asked m_duel_longest m_duel_shortest m_duel_chimesOfFirst m_duel_chimesOfSecond m_duel_lasts m_cover_sayable m_cover_price m_cover_covered m_cover_spent m_clashes m_tally m_sayableByPair m_chosenPairs n_thrown n_size n_at n_start n_token n_value n_faultAt n_allowed n_firstPair n_secondPair n_above n_below n_refused n_tongue n_fresh n_kept n_isKept n_text n_said n_talk hR x1 x2 x3
  obtain ⟨hT, hX, hF, hA, hI, hC⟩ := hR
  have hT0 := hT
  obtain ⟨w, p, u, h, en, mn, cn, kn, wn, ⟨hw, hp, hu8, hh6⟩, ⟨rfl, rfl, rfl, rfl⟩, hrE, hrP, hr2, hco, hE, hM, hP, hs, hir, hh, hu, hsd⟩ := hT
  cases hi : inr x1 8 with
  | false =>
    have h1 : fX10_word N m_bads m_nos m_fulls (nI w) (nI u) m_now_ending m_now_meaning m_now_cost x1 x2 x3 = some (-2, m_bads + 1, m_nos, m_fulls, nI w, nI u, m_now_ending, m_now_meaning, m_now_cost) := by
      unfold fX10_word fX10_word_b27
      rw [s_fl x1 8 8 rfl (by decide), gm_bind_s, hi, if_pos (by decide), s_refB, gm_bind_s]
    have h2 : fX11_word N n_thrown n_refused n_tongue x1 x2 x3 = some (-2, 0, upd n_refused 0 (n_refused 0 + 1), n_tongue) := by
      unfold fX11_word fX11_word_b36
      rw [s_isEnding, gm_bind_s, hi, if_pos (by decide), s_bad, gm_bind_s]
    exact ⟨_, _, h1, h2, rfl, hT0, hX, RFb hF, hA, hI, hC⟩
  | true =>
    obtain ⟨a, ha, rfl⟩ := inr_t hi (by decide)
    cases hi2 : inr x2 8 with
    | false =>
      have h1 : fX10_word N m_bads m_nos m_fulls (nI w) (nI u) m_now_ending m_now_meaning m_now_cost (nI a) x2 x3 = some (-2, m_bads + 1, m_nos, m_fulls, nI w, nI u, m_now_ending, m_now_meaning, m_now_cost) := by
        unfold fX10_word fX10_word_b27
        rw [s_fl (nI a) 8 8 rfl (by decide), gm_bind_s, hi, if_neg (by decide), s_fl x2 8 8 rfl (by decide), gm_bind_s, hi2, if_pos (by decide), s_refB, gm_bind_s]
      have h2 : fX11_word N n_thrown n_refused n_tongue (nI a) x2 x3 = some (-2, 0, upd n_refused 0 (n_refused 0 + 1), n_tongue) := by
        unfold fX11_word fX11_word_b36
        rw [s_isEnding, gm_bind_s, hi, if_neg (by decide), s_in (B := 8) x2 7 (by decide), gm_bind_s, hi2, if_pos (by decide), s_bad, gm_bind_s]
      exact ⟨_, _, h1, h2, rfl, hT0, hX, RFb hF, hA, hI, hC⟩
    | true =>
      obtain ⟨b, hb, rfl⟩ := inr_t hi2 (by decide)
      cases hi3 : inr x3 21 with
      | false =>
        have h1 : fX10_word N m_bads m_nos m_fulls (nI w) (nI u) m_now_ending m_now_meaning m_now_cost (nI a) (nI b) x3 = some (-2, m_bads + 1, m_nos, m_fulls, nI w, nI u, m_now_ending, m_now_meaning, m_now_cost) := by
          unfold fX10_word fX10_word_b27
          rw [s_fl (nI a) 8 8 rfl (by decide), gm_bind_s, hi, if_neg (by decide), s_fl (nI b) 8 8 rfl (by decide), gm_bind_s, hi2, if_neg (by decide), s_fl x3 21 21 rfl (by decide), gm_bind_s, hi3, if_pos (by decide), s_refB, gm_bind_s]
        have h2 : fX11_word N n_thrown n_refused n_tongue (nI a) (nI b) x3 = some (-2, 0, upd n_refused 0 (n_refused 0 + 1), n_tongue) := by
          unfold fX11_word fX11_word_b36
          rw [s_isEnding, gm_bind_s, hi, if_neg (by decide), s_in (B := 8) (nI b) 7 (by decide), gm_bind_s, hi2, if_neg (by decide), s_in (B := 21) x3 20 (by decide), gm_bind_s, hi3, if_pos (by decide), s_bad, gm_bind_s]
        exact ⟨_, _, h1, h2, rfl, hT0, hX, RFb hF, hA, hI, hC⟩
      | true =>
        obtain ⟨c, hc, rfl⟩ := inr_t hi3 (by decide)
        rcases Nat.lt_or_ge w 10 with hl | hl
        · have h1 : fX10_word N m_bads m_nos m_fulls (nI w) (nI u) m_now_ending m_now_meaning m_now_cost (nI a) (nI b) (nI c) = some (nI w, m_bads, m_nos, m_fulls, nI (w + 1), 0, upd m_now_ending w (nI a), upd m_now_meaning w (nI b), upd m_now_cost w (nI c)) := by
            unfold fX10_word
            rw [s_fl (nI a) 8 8 rfl (by decide), gm_bind_s, hi, if_neg (by decide), s_fl (nI b) 8 8 rfl (by decide), gm_bind_s, hi2, if_neg (by decide), s_fl (nI c) 21 21 rfl (by decide), gm_bind_s, hi3, if_neg (by decide), if_pos (show nI w < 10 from nI_lt (b := 10) hl (by decide)), s_addWord hl, gm_bind_s]
          have h2 : fX11_word N n_thrown n_refused n_tongue (nI a) (nI b) (nI c) = some (nI w, 0, n_refused, upd (upd (upd (upd (upd n_tongue (5 + 3 * w) (nI a)) (5 + 3 * w + 1) (nI b)) (5 + 3 * w + 2) (nI c)) 0 (nI (w + 1))) 4 0) := by
            unfold fX11_word
            rw [s_isEnding, gm_bind_s, hi, if_neg (by decide), s_in (B := 8) (nI b) 7 (by decide), gm_bind_s, hi2, if_neg (by decide), s_in (B := 21) (nI c) 20 (by decide), gm_bind_s, hi3, if_neg (by decide), ck0 (by decide), cl0, hrE.1, if_neg (show ¬ nI w = 10 from fun q => by have := (nI_eq (a := w) (b := 10) (by omega) (by decide)).mp q; omega), s_MaddWord hrE.1 hl, gm_bind_s, ck4 (by decide), ck0 (by decide), cl4, upd_n (by decide), upd_s, nI_m1 (by omega)]
            rfl
          have hT2 : RT (nI (w + 1)) (nI p) m_now_said 0 (nI h) (upd m_now_ending w (nI a)) (upd m_now_meaning w (nI b)) (upd m_now_cost w (nI c)) m_now_alikeTo m_now_kind m_now_want m_now_saidAhead m_now_heardWord m_now_heardAnswer (upd (upd (upd (upd (upd n_tongue (5 + 3 * w) (nI a)) (5 + 3 * w + 1) (nI b)) (5 + 3 * w + 2) (nI c)) 0 (nI (w + 1))) 4 0) := by
            have old : ∀ k, k ≠ 0 → k ≠ 4 → (k < 5 + 3 * w ∨ 5 + 3 * w + 2 < k) → (upd (upd (upd (upd (upd n_tongue (5 + 3 * w) (nI a)) (5 + 3 * w + 1) (nI b)) (5 + 3 * w + 2) (nI c)) 0 (nI (w + 1))) 4 0) k = n_tongue k := fun k k0 k4 k5 => by rw [upd_n k4, upd_n k0, upd_n (by omega), upd_n (by omega), upd_n (by omega)]
            refine ⟨w + 1, p, 0, h, fun j => if j = w then a else en j, fun j => if j = w then b else mn j, fun j => if j = w then c else cn j, kn, wn, ⟨by omega, hp, by omega, hh6⟩, ⟨rfl, rfl, rfl, rfl⟩, ⟨?_, fun j hj => ?_, fun z hz => ?_⟩, ⟨?_, fun j hj => ⟨?_, ?_⟩⟩, ⟨?_, ?_, upd_s⟩, fun j hj => ?_, fun j hj => ?_, fun j hj => ?_, hP, hs, hir, fun j hj => ⟨?_, ?_, ?_, ?_⟩, fun j hj => absurd hj (Nat.not_lt_zero j), ?_⟩
            · rw [upd_n (by decide), upd_s]
            · by_cases hjw : j = w
              · subst hjw
                exact ⟨by rw [upd_n (by omega), upd_n (by omega), upd_n (by omega), upd_n (by omega), upd_s, upd_s], by rw [upd_n (by omega), upd_n (by omega), upd_n (by omega), upd_s, upd_s]⟩
              · exact ⟨by rw [old _ (by omega) (by omega) (by omega), upd_n hjw]; exact (hrE.2.1 j (by omega)).1, by rw [old _ (by omega) (by omega) (by omega), upd_n hjw]; exact (hrE.2.1 j (by omega)).2⟩
            · rw [old _ (by omega) (by omega) (by omega)]; exact hrE.2.2 z hz
            · rw [old 1 (by omega) (by omega) (by omega)]; exact hrP.1
            · rw [old _ (by omega) (by omega) (by omega)]; exact (hrP.2 j hj).1
            · rw [old _ (by omega) (by omega) (by omega)]; exact (hrP.2 j hj).2
            · rw [old 2 (by omega) (by omega) (by omega)]; exact hr2.1
            · rw [old 3 (by omega) (by omega) (by omega)]; exact hr2.2.1
            · by_cases hjw : j = w
              · subst hjw
                simp only [if_pos]
                exact ⟨by rw [upd_n (by omega), upd_n (by omega), upd_s, upd_s], by omega, upd_s⟩
              · simp only [if_neg hjw]
                have := hco j (by omega)
                exact ⟨by rw [old _ (by omega) (by omega) (by omega), upd_n hjw]; exact this.1, this.2.1, by rw [upd_n hjw]; exact this.2.2⟩
            · by_cases hjw : j = w
              · subst hjw; simp only [if_pos]; exact ⟨ha, upd_s⟩
              · simp only [if_neg hjw]; exact ⟨(hE j (by omega)).1, by rw [upd_n hjw]; exact (hE j (by omega)).2⟩
            · by_cases hjw : j = w
              · subst hjw; simp only [if_pos]; exact ⟨hb, upd_s⟩
              · simp only [if_neg hjw]; exact ⟨(hM j (by omega)).1, by rw [upd_n hjw]; exact (hM j (by omega)).2⟩
            · rw [old _ (by omega) (by omega) (by omega)]; exact (hh j hj).1
            · rw [old _ (by omega) (by omega) (by omega)]; exact (hh j hj).2.1
            · obtain ⟨x, hx, ex⟩ := (hh j hj).2.2.1; exact ⟨x, by omega, ex⟩
            · rcases (hh j hj).2.2.2 with e | ⟨y, hy, ey⟩
              · exact Or.inl e
              · exact Or.inr ⟨y, by omega, ey⟩
            · obtain ⟨v, hv, ev⟩ := hsd
              exact ⟨v, Nat.lt_of_lt_of_le hv (Nat.pow_le_pow_right (by decide) (by omega)), ev⟩
          exact ⟨_, _, h1, h2, rfl, hT2, hX, hF, hA, hI, hC⟩
        · have hw2 : w = 10 := by omega
          subst hw2
          have h1 : fX10_word N m_bads m_nos m_fulls (nI 10) (nI u) m_now_ending m_now_meaning m_now_cost (nI a) (nI b) (nI c) = some (-4, m_bads, m_nos, m_fulls + 1, nI 10, nI u, m_now_ending, m_now_meaning, m_now_cost) := by
            unfold fX10_word
            rw [s_fl (nI a) 8 8 rfl (by decide), gm_bind_s, hi, if_neg (by decide), s_fl (nI b) 8 8 rfl (by decide), gm_bind_s, hi2, if_neg (by decide), s_fl (nI c) 21 21 rfl (by decide), gm_bind_s, hi3, if_neg (by decide), if_neg (by decide), s_refF, gm_bind_s]
          have h2 : fX11_word N n_thrown n_refused n_tongue (nI a) (nI b) (nI c) = some (-4, 0, upd n_refused 2 (n_refused 2 + 1), n_tongue) := by
            unfold fX11_word
            rw [s_isEnding, gm_bind_s, hi, if_neg (by decide), s_in (B := 8) (nI b) 7 (by decide), gm_bind_s, hi2, if_neg (by decide), s_in (B := 21) (nI c) 20 (by decide), gm_bind_s, hi3, if_neg (by decide), ck0 (by decide), cl0, hrE.1, if_pos (by decide), s_full, gm_bind_s]
          exact ⟨_, _, h1, h2, rfl, hT0, hX, RFf hF, hA, hI, hC⟩
