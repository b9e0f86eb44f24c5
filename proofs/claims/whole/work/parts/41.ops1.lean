def gm_R : gm_RT := fun m_imagesKept m_bads m_nos m_fulls m_above m_below m_now_words m_now_people m_now_said m_now_undos m_now_heard m_now_ending m_now_meaning m_now_cost m_now_alikeTo m_now_kind m_now_want m_now_saidAhead m_now_heardWord m_now_heardAnswer m_draft_words m_draft_people m_draft_said m_draft_undos m_draft_heard m_draft_ending m_draft_meaning m_draft_cost m_draft_alikeTo m_draft_kind m_draft_want m_draft_saidAhead m_draft_heardWord m_draft_heardAnswer m_images_0_words m_images_0_people m_images_0_said m_images_0_undos m_images_0_heard m_images_0_ending m_images_0_meaning m_images_0_cost m_images_0_alikeTo m_images_0_kind m_images_0_want m_images_0_saidAhead m_images_0_heardWord m_images_0_heardAnswer m_images_1_words m_images_1_people m_images_1_said m_images_1_undos m_images_1_heard m_images_1_ending m_images_1_meaning m_images_1_cost m_images_1_alikeTo m_images_1_kind m_images_1_want m_images_1_saidAhead m_images_1_heardWord m_images_1_heardAnswer m_text_length m_text_items m_text_place m_text_start m_text_token m_text_number m_text_bytes m_duel_words m_duel_saidAtFirst m_duel_asked m_duel_longest m_duel_shortest m_duel_chimesOfFirst m_duel_chimesOfSecond m_duel_lasts m_cover_sayable m_cover_price m_cover_covered m_cover_spent m_clashes m_tally m_sayableByPair m_chosenPairs n_thrown n_size n_at n_start n_token n_value n_faultAt n_allowed n_firstPair n_secondPair n_above n_below n_refused n_tongue n_fresh n_kept n_isKept n_text n_said n_talk => RT m_now_words m_now_people m_now_said m_now_undos m_now_heard m_now_ending m_now_meaning m_now_cost m_now_alikeTo m_now_kind m_now_want m_now_saidAhead m_now_heardWord m_now_heardAnswer n_tongue ∧ RX m_text_length m_text_bytes n_size n_text ∧ (m_bads = n_refused 0 ∧ m_nos = n_refused 1 ∧ m_fulls = n_refused 2) ∧ (m_above = n_above ∧ m_below = n_below) ∧ RI m_imagesKept n_isKept (RT m_images_0_words m_images_0_people m_images_0_said m_images_0_undos m_images_0_heard m_images_0_ending m_images_0_meaning m_images_0_cost m_images_0_alikeTo m_images_0_kind m_images_0_want m_images_0_saidAhead m_images_0_heardWord m_images_0_heardAnswer n_kept) (RT m_images_1_words m_images_1_people m_images_1_said m_images_1_undos m_images_1_heard m_images_1_ending m_images_1_meaning m_images_1_cost m_images_1_alikeTo m_images_1_kind m_images_1_want m_images_1_saidAhead m_images_1_heardWord m_images_1_heardAnswer (fun k => n_kept (73 + k))) ∧ (m_cover_covered 0 = 0 ∧ m_cover_spent 0 = 0)

set_option maxHeartbeats 4000000 in
theorem sim_clear {N : Nat} (hN : 3000 ≤ N) : S_clear N gm_R := by
  intro m_imagesKept m_bads m_nos m_fulls m_above m_below m_now_words m_now_people m_now_said m_now_undos m_now_heard m_now_ending m_now_meaning m_now_cost m_now_alikeTo m_now_kind m_now_want m_now_saidAhead m_now_heardWord m_now_heardAnswer m_draft_words m_draft_people m_draft_said m_draft_undos m_draft_heard m_draft_ending m_draft_meaning m_draft_cost m_draft_alikeTo m_draft_kind m_draft_want m_draft_saidAhead m_draft_heardWord m_draft_heardAnswer m_images_0_words m_images_0_people m_images_0_said m_images_0_undos m_images_0_heard m_images_0_ending m_images_0_meaning m_images_0_cost m_images_0_alikeTo m_images_0_kind m_images_0_want m_images_0_saidAhead m_images_0_heardWord m_images_0_heardAnswer m_images_1_words m_images_1_people m_images_1_said m_images_1_undos m_images_1_heard m_images_1_ending m_images_1_meaning m_images_1_cost m_images_1_alikeTo m_images_1_kind m_images_1_want m_images_1_saidAhead m_images_1_heardWord m_images_1_heardAnswer m_text_length m_text_items m_text_place m_text_start m_text_token m_text_number m_text_bytes m_duel_words m_duel_saidAtFirst m_duel_asked m_duel_longest m_duel_shortest m_duel_chimesOfFirst m_duel_chimesOfSecond m_duel_lasts m_cover_sayable m_cover_price m_cover_covered m_cover_spent m_clashes m_tally m_sayableByPair m_chosenPairs n_thrown n_size n_at n_start n_token n_value n_faultAt n_allowed n_firstPair n_secondPair n_above n_below n_refused n_tongue n_fresh n_kept n_isKept n_text n_said n_talk hR _
  obtain ⟨hT, hX, hF, hA, hI, hC⟩ := hR
  obtain ⟨n, hn, e1, e2, hb⟩ := hX
  have h1 : fX10_clear N m_text_length = some (m_text_length, 0) := rfl
  have h2 : fX11_clear N n_thrown n_size = some (n_size, 0, 0) := rfl
  refine ⟨_, _, h1, h2, by rw [e1, e2], hT, ⟨0, by omega, rfl, rfl, fun j hj => absurd hj (Nat.not_lt_zero j)⟩, hF, hA, hI, hC⟩

set_option maxHeartbeats 4000000 in
theorem sim_forget {N : Nat} (hN : 3000 ≤ N) : S_forget N gm_R := by
  intro m_imagesKept m_bads m_nos m_fulls m_above m_below m_now_words m_now_people m_now_said m_now_undos m_now_heard m_now_ending m_now_meaning m_now_cost m_now_alikeTo m_now_kind m_now_want m_now_saidAhead m_now_heardWord m_now_heardAnswer m_draft_words m_draft_people m_draft_said m_draft_undos m_draft_heard m_draft_ending m_draft_meaning m_draft_cost m_draft_alikeTo m_draft_kind m_draft_want m_draft_saidAhead m_draft_heardWord m_draft_heardAnswer m_images_0_words m_images_0_people m_images_0_said m_images_0_undos m_images_0_heard m_images_0_ending m_images_0_meaning m_images_0_cost m_images_0_alikeTo m_images_0_kind m_images_0_want m_images_0_saidAhead m_images_0_heardWord m_images_0_heardAnswer m_images_1_words m_images_1_people m_images_1_said m_images_1_undos m_images_1_heard m_images_1_ending m_images_1_meaning m_images_1_cost m_images_1_alikeTo m_images_1_kind m_images_1_want m_images_1_saidAhead m_images_1_heardWord m_images_1_heardAnswer m_text_length m_text_items m_text_place m_text_start m_text_token m_text_number m_text_bytes m_duel_words m_duel_saidAtFirst m_duel_asked m_duel_longest m_duel_shortest m_duel_chimesOfFirst m_duel_chimesOfSecond m_duel_lasts m_cover_sayable m_cover_price m_cover_covered m_cover_spent m_clashes m_tally m_sayableByPair m_chosenPairs n_thrown n_size n_at n_start n_token n_value n_faultAt n_allowed n_firstPair n_secondPair n_above n_below n_refused n_tongue n_fresh n_kept n_isKept n_text n_said n_talk hR _
  obtain ⟨hT, hX, hF, hA, hI, hC⟩ := hR
  obtain ⟨w, p, u, h, en, mn, cn, kn, wn, hb, hq, hrE, hrP, hr2, hco, hE, hM, hP, hs, hir, hh, hu, hsd⟩ := hT
  have h1 : fX10_forget N m_now_heard = some (m_now_heard, 0) := rfl
  have h2 : fX11_forget N n_thrown n_tongue = some (n_tongue 3, 0, upd n_tongue 3 0) := by
    unfold fX11_forget
    rw [ck3 (by decide), gm_let_s, ck3 (by decide), cl3]
  have hT2 : RT m_now_words m_now_people m_now_said m_now_undos 0 m_now_ending m_now_meaning m_now_cost m_now_alikeTo m_now_kind m_now_want m_now_saidAhead m_now_heardWord m_now_heardAnswer (upd n_tongue 3 0) := ⟨w, p, u, 0, en, mn, cn, kn, wn, ⟨hb.1, hb.2.1, hb.2.2.1, by omega⟩, ⟨hq.1, hq.2.1, hq.2.2.1, rfl⟩, ⟨by rw [upd_n (by omega)]; exact hrE.1, fun j hj => ⟨by rw [upd_n (by omega)]; exact (hrE.2.1 j hj).1, by rw [upd_n (by omega)]; exact (hrE.2.1 j hj).2⟩, fun a ha => by rw [upd_n (by omega)]; exact hrE.2.2 a ha⟩, ⟨by rw [upd_n (by omega)]; exact hrP.1, fun j hj => ⟨by rw [upd_n (by omega)]; exact (hrP.2 j hj).1, by rw [upd_n (by omega)]; exact (hrP.2 j hj).2⟩⟩, ⟨by rw [upd_n (by omega)]; exact hr2.1, upd_s, by rw [upd_n (by omega)]; exact hr2.2.2⟩, fun j hj => ⟨by rw [upd_n (by omega)]; exact (hco j hj).1, (hco j hj).2⟩, hE, hM, hP, hs, hir, fun j hj => absurd hj (Nat.not_lt_zero j), fun j hj => ⟨by rw [upd_n (by omega)]; exact (hu j hj).1, (hu j hj).2⟩, hsd⟩
  exact ⟨_, _, h1, h2, hr2.2.1.symm, hT2, hX, hF, hA, hI, hC⟩

set_option maxHeartbeats 4000000 in
theorem sim_status {N : Nat} (hN : 3000 ≤ N) : S_status N gm_R := by
  intro m_imagesKept m_bads m_nos m_fulls m_above m_below m_now_words m_now_people m_now_said m_now_undos m_now_heard m_now_ending m_now_meaning m_now_cost m_now_alikeTo m_now_kind m_now_want m_now_saidAhead m_now_heardWord m_now_heardAnswer m_draft_words m_draft_people m_draft_said m_draft_undos m_draft_heard m_draft_ending m_draft_meaning m_draft_cost m_draft_alikeTo m_draft_kind m_draft_want m_draft_saidAhead m_draft_heardWord m_draft_heardAnswer m_images_0_words m_images_0_people m_images_0_said m_images_0_undos m_images_0_heard m_images_0_ending m_images_0_meaning m_images_0_cost m_images_0_alikeTo m_images_0_kind m_images_0_want m_images_0_saidAhead m_images_0_heardWord m_images_0_heardAnswer m_images_1_words m_images_1_people m_images_1_said m_images_1_undos m_images_1_heard m_images_1_ending m_images_1_meaning m_images_1_cost m_images_1_alikeTo m_images_1_kind m_images_1_want m_images_1_saidAhead m_images_1_heardWord m_images_1_heardAnswer m_text_length m_text_items m_text_place m_text_start m_text_token m_text_number m_text_bytes m_duel_words m_duel_saidAtFirst m_duel_asked m_duel_longest m_duel_shortest m_duel_chimesOfFirst m_duel_chimesOfSecond m_duel_lasts m_cover_sayable m_cover_price m_cover_covered m_cover_spent m_clashes m_tally m_sayableByPair m_chosenPairs n_thrown n_size n_at n_start n_token n_value n_faultAt n_allowed n_firstPair n_secondPair n_above n_below n_refused n_tongue n_fresh n_kept n_isKept n_text n_said n_talk hR x1
  obtain ⟨hT, hX, hF, hA, hI, hC⟩ := hR
  obtain ⟨hb, hn, hf⟩ := hF
  by_cases c0 : x1 = 0
  · have h1 : fX10_status N m_bads m_nos m_fulls x1 = some (m_bads, m_bads, m_nos, m_fulls) := by unfold fX10_status; rw [if_pos c0]
    have h2 : fX11_status N n_thrown n_refused x1 = some (n_refused 0, 0, n_refused) := by
      unfold fX11_status
      rw [s_in (B := 3) x1 2 (by decide), gm_bind_s, c0, if_neg (by decide), ck0 (by decide), cl0]
    exact ⟨_, _, h1, h2, hb, hT, hX, ⟨hb, hn, hf⟩, hA, hI, hC⟩
  · by_cases c1 : x1 = 1
    · have h1 : fX10_status N m_bads m_nos m_fulls x1 = some (m_nos, m_bads, m_nos, m_fulls) := by unfold fX10_status; rw [if_neg c0, if_pos c1]
      have h2 : fX11_status N n_thrown n_refused x1 = some (n_refused 1, 0, n_refused) := by
        unfold fX11_status
        rw [s_in (B := 3) x1 2 (by decide), gm_bind_s, c1, if_neg (by decide), ck1 (by decide), cl1]
      exact ⟨_, _, h1, h2, hn, hT, hX, ⟨hb, hn, hf⟩, hA, hI, hC⟩
    · by_cases c2 : x1 = 2
      · have h1 : fX10_status N m_bads m_nos m_fulls x1 = some (m_fulls, m_bads, m_nos, m_fulls) := by unfold fX10_status; rw [if_neg c0, if_neg c1, if_pos c2]
        have h2 : fX11_status N n_thrown n_refused x1 = some (n_refused 2, 0, n_refused) := by
          unfold fX11_status
          rw [s_in (B := 3) x1 2 (by decide), gm_bind_s, c2, if_neg (by decide), ck2 (by decide), cl2]
        exact ⟨_, _, h1, h2, hf, hT, hX, ⟨hb, hn, hf⟩, hA, hI, hC⟩
      · have h1 : fX10_status N m_bads m_nos m_fulls x1 = some (-1, m_bads + 1, m_nos, m_fulls) := by unfold fX10_status; rw [if_neg c0, if_neg c1, if_neg c2, s_refB, gm_bind_s]
        have hi : inr x1 3 = false := by
          cases hq : inr x1 3 with
          | false => rfl
          | true =>
            obtain ⟨j, hj, e⟩ := inr_t hq (by decide)
            rcases (show j = 0 ∨ j = 1 ∨ j = 2 by omega) with rfl | rfl | rfl
            · exact absurd e c0
            · exact absurd e c1
            · exact absurd e c2
        have h2 : fX11_status N n_thrown n_refused x1 = some (-1, 0, upd n_refused 0 (n_refused 0 + 1)) := by
          unfold fX11_status fX11_refuse
          rw [s_in (B := 3) x1 2 (by decide), gm_bind_s, hi, if_pos (by decide), ck0 (by decide), ck0 (by decide), gm_bind_s, cl0]
        exact ⟨_, _, h1, h2, rfl, hT, hX, RFb ⟨hb, hn, hf⟩, hA, hI, hC⟩

set_option maxHeartbeats 4000000 in
theorem sim_part {N : Nat} (hN : 3000 ≤ N) : S_part N gm_R := by
  intro m_imagesKept m_bads m_nos m_fulls m_above m_below m_now_words m_now_people m_now_said m_now_undos m_now_heard m_now_ending m_now_meaning m_now_cost m_now_alikeTo m_now_kind m_now_want m_now_saidAhead m_now_heardWord m_now_heardAnswer m_draft_words m_draft_people m_draft_said m_draft_undos m_draft_heard m_draft_ending m_draft_meaning m_draft_cost m_draft_alikeTo m_draft_kind m_draft_want m_draft_saidAhead m_draft_heardWord m_draft_heardAnswer m_images_0_words m_images_0_people m_images_0_said m_images_0_undos m_images_0_heard m_images_0_ending m_images_0_meaning m_images_0_cost m_images_0_alikeTo m_images_0_kind m_images_0_want m_images_0_saidAhead m_images_0_heardWord m_images_0_heardAnswer m_images_1_words m_images_1_people m_images_1_said m_images_1_undos m_images_1_heard m_images_1_ending m_images_1_meaning m_images_1_cost m_images_1_alikeTo m_images_1_kind m_images_1_want m_images_1_saidAhead m_images_1_heardWord m_images_1_heardAnswer m_text_length m_text_items m_text_place m_text_start m_text_token m_text_number m_text_bytes m_duel_words m_duel_saidAtFirst m_duel_asked m_duel_longest m_duel_shortest m_duel_chimesOfFirst m_duel_chimesOfSecond m_duel_lasts m_cover_sayable m_cover_price m_cover_covered m_cover_spent m_clashes m_tally m_sayableByPair m_chosenPairs n_thrown n_size n_at n_start n_token n_value n_faultAt n_allowed n_firstPair n_secondPair n_above n_below n_refused n_tongue n_fresh n_kept n_isKept n_text n_said n_talk hR x1
  obtain ⟨hT, hX, hF, hA, hI, hC⟩ := hR
  obtain ⟨hb, hn, hf⟩ := hF
  by_cases c0 : x1 = 0
  · have h1 : fX10_part N m_bads m_nos m_fulls m_above m_below x1 = some (m_above, m_bads, m_nos, m_fulls) := by
      unfold fX10_part
      rw [s_fl x1 2 2 rfl (by decide), gm_bind_s, c0, if_neg (by decide), if_pos rfl]
    have h2 : fX11_part N n_thrown n_above n_below n_refused x1 = some (n_above, 0, n_refused) := by unfold fX11_part; rw [if_pos c0]
    exact ⟨_, _, h1, h2, hA.1, hT, hX, ⟨hb, hn, hf⟩, hA, hI, hC⟩
  · by_cases c1 : x1 = 1
    · have h1 : fX10_part N m_bads m_nos m_fulls m_above m_below x1 = some (m_below, m_bads, m_nos, m_fulls) := by
        unfold fX10_part
        rw [s_fl x1 2 2 rfl (by decide), gm_bind_s, c1, if_neg (by decide), if_neg (by decide)]
      have h2 : fX11_part N n_thrown n_above n_below n_refused x1 = some (n_below, 0, n_refused) := by unfold fX11_part; rw [if_neg c0, if_pos c1]
      exact ⟨_, _, h1, h2, hA.2, hT, hX, ⟨hb, hn, hf⟩, hA, hI, hC⟩
    · have hi : inr x1 2 = false := by
        cases hq : inr x1 2 with
        | false => rfl
        | true =>
          obtain ⟨j, hj, e⟩ := inr_t hq (by decide)
          rcases (show j = 0 ∨ j = 1 by omega) with rfl | rfl
          · exact absurd e c0
          · exact absurd e c1
      have h1 : fX10_part N m_bads m_nos m_fulls m_above m_below x1 = some (Int32.toInt64 (-2), m_bads + 1, m_nos, m_fulls) := by
        unfold fX10_part
        rw [s_fl x1 2 2 rfl (by decide), gm_bind_s, hi, if_pos (by decide), s_refB, gm_bind_s]
      have h2 : fX11_part N n_thrown n_above n_below n_refused x1 = some (Int32.toInt64 (-2), 0, upd n_refused 0 (n_refused 0 + 1)) := by
        unfold fX11_part
        rw [if_neg c0, if_neg c1, s_bad, gm_bind_s]
      exact ⟨_, _, h1, h2, rfl, hT, hX, RFb ⟨hb, hn, hf⟩, hA, hI, hC⟩
