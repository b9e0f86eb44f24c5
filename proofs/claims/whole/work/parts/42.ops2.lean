set_option maxHeartbeats 4000000 in
theorem sim_of {N : Nat} (hN : 3000 ≤ N) : S_of N gm_R := by
  intro m_imagesKept m_bads m_nos m_fulls m_above m_below m_now_words m_now_people m_now_said m_now_undos m_now_heard m_now_ending m_now_meaning m_now_cost m_now_alikeTo m_now_kind m_now_want m_now_saidAhead m_now_heardWord m_now_heardAnswer m_draft_words m_draft_people m_draft_said m_draft_undos m_draft_heard m_draft_ending m_draft_meaning m_draft_cost m_draft_alikeTo m_draft_kind m_draft_want m_draft_saidAhead m_draft_heardWord m_draft_heardAnswer m_images_0_words m_images_0_people m_images_0_said m_images_0_undos m_images_0_heard m_images_0_ending m_images_0_meaning m_images_0_cost m_images_0_alikeTo m_images_0_kind m_images_0_want m_images_0_saidAhead m_images_0_heardWord m_images_0_heardAnswer m_images_1_words m_images_1_people m_images_1_said m_images_1_undos m_images_1_heard m_images_1_ending m_images_1_meaning m_images_1_cost m_images_1_alikeTo m_images_1_kind m_images_1_want m_images_1_saidAhead m_images_1_heardWord m_images_1_heardAnswer m_text_length m_text_items m_text_place m_text_start m_text_token m_text_number m_text_bytes m_duel_words m_duel_saidAtFirst m_duel_asked m_duel_longest m_duel_shortest m_duel_chimesOfFirst m_duel_chimesOfSecond m_duel_lasts m_cover_sayable m_cover_price m_cover_covered m_cover_spent m_clashes m_tally m_sayableByPair m_chosenPairs n_thrown n_size n_at n_start n_token n_value n_faultAt n_allowed n_firstPair n_secondPair n_above n_below n_refused n_tongue n_fresh n_kept n_isKept n_text n_said n_talk hR x1 x2
  obtain ⟨hT, hX, hF, hA, hI, hC⟩ := hR
  have hT0 := hT
  obtain ⟨w, p, u, h, en, mn, cn, kn, wn, ⟨hw, hp, hu8, hh6⟩, ⟨rfl, rfl, rfl, rfl⟩, hrE, hrP, hr2, hco, hE, hM, hP, hs, hir, hh, hu, hsd⟩ := hT
  cases hi : inr x1 w with
  | false =>
    have h1 : fX10_of N m_bads m_nos m_fulls (nI w) m_now_said m_now_ending m_now_meaning m_now_cost x1 x2 = some (-2, m_bads + 1, m_nos, m_fulls) := by
      unfold fX10_of fX10_of_b16
      rw [s_isWord x1 (by omega), gm_bind_s, hi, if_pos (by decide), s_refB, gm_bind_s]
    have h2 : fX11_of N n_thrown n_refused n_tongue x1 x2 = some (-2, 0, upd n_refused 0 (n_refused 0 + 1)) := by
      unfold fX11_of fX11_of_b25
      rw [s_noWord x1 hrE.1 (by omega), gm_bind_s, hi, if_neg (by decide), s_bad, gm_bind_s]
    exact ⟨_, _, h1, h2, rfl, hT0, hX, RFb hF, hA, hI, hC⟩
  | true =>
    obtain ⟨a, ha, rfl⟩ := inr_t hi (by omega)
    cases hi2 : inr x2 4 with
    | false =>
      have h1 : fX10_of N m_bads m_nos m_fulls (nI w) m_now_said m_now_ending m_now_meaning m_now_cost (nI a) x2 = some (-2, m_bads + 1, m_nos, m_fulls) := by
        unfold fX10_of fX10_of_b16
        rw [s_isWord (nI a) (by omega), gm_bind_s, hi, if_neg (by decide), s_fl x2 4 4 rfl (by decide), gm_bind_s, hi2, if_pos (by decide), s_refB, gm_bind_s]
      have h2 : fX11_of N n_thrown n_refused n_tongue (nI a) x2 = some (-2, 0, upd n_refused 0 (n_refused 0 + 1)) := by
        unfold fX11_of fX11_of_b25
        rw [s_noWord (nI a) hrE.1 (by omega), gm_bind_s, hi, if_pos (by decide), s_in (B := 4) x2 3 (by decide), gm_bind_s, hi2, if_pos (by decide), s_bad, gm_bind_s]
      exact ⟨_, _, h1, h2, rfl, hT0, hX, RFb hF, hA, hI, hC⟩
    | true =>
      obtain ⟨k, hk, rfl⟩ := inr_t hi2 (by decide)
      have h1 : fX10_of N m_bads m_nos m_fulls (nI w) m_now_said m_now_ending m_now_meaning m_now_cost (nI a) (nI k) = some (if k = 0 then m_now_ending a else if k = 1 then m_now_meaning a else if k = 2 then m_now_cost a else ((m_now_said >>> (nI a &&& 31)) &&& 1), m_bads, m_nos, m_fulls) := by
        unfold fX10_of
        rw [s_isWord (nI a) (by omega), gm_bind_s, hi, if_neg (by decide), s_fl (nI k) 4 4 rfl (by decide), gm_bind_s, hi2, if_neg (by decide)]
        rcases (show k = 0 ∨ k = 1 ∨ k = 2 ∨ k = 3 by omega) with rfl | rfl | rfl | rfl
        · rw [if_pos (by decide), gm_chk_n (by omega) (by decide), cl_n (by omega), if_pos rfl]
        · rw [if_neg (by decide), if_pos (by decide), gm_chk_n (by omega) (by decide), cl_n (by omega), if_neg (by decide), if_pos rfl]
        · rw [if_neg (by decide), if_neg (by decide), if_pos (by decide), gm_chk_n (by omega) (by decide), cl_n (by omega), if_neg (by decide), if_neg (by decide), if_pos rfl]
        · rw [if_neg (by decide), if_neg (by decide), if_neg (by decide), if_neg (by decide), if_neg (by decide), if_neg (by decide)]
      have h2 : fX11_of N n_thrown n_refused n_tongue (nI a) (nI k) = some (if k = 0 then m_now_ending a else if k = 1 then m_now_meaning a else if k = 2 then m_now_cost a else ((m_now_said >>> (nI a &&& 31)) &&& 1), 0, n_refused) := by
        unfold fX11_of
        rw [s_noWord (nI a) hrE.1 (by omega), gm_bind_s, hi, if_pos (by decide), s_in (B := 4) (nI k) 3 (by decide), gm_bind_s, hi2, if_neg (by decide)]
        rcases (show k = 0 ∨ k = 1 ∨ k = 2 ∨ k = 3 by omega) with rfl | rfl | rfl | rfl
        · rw [if_neg (by decide), ix3, nI_add, gm_chk_n (by omega) (by decide), cl_n (by omega), if_pos rfl, ← (hrE.2.1 a ha).1]; rfl
        · rw [if_neg (by decide), ix3, nI_add, gm_chk_n (by omega) (by decide), cl_n (by omega), if_neg (by decide), if_pos rfl, ← (hrE.2.1 a ha).2]
        · rw [if_neg (by decide), ix3, nI_add, gm_chk_n (by omega) (by decide), cl_n (by omega), if_neg (by decide), if_neg (by decide), if_pos rfl, ← (hco a ha).1]
        · rw [if_pos (by decide), ck2 (by decide), cl2, hr2.1, if_neg (by decide), if_neg (by decide), if_neg (by decide)]
      exact ⟨_, _, h1, h2, rfl, hT0, hX, hF, hA, hI, hC⟩

set_option maxHeartbeats 4000000 in
theorem sim_about {N : Nat} (hN : 3000 ≤ N) : S_about N gm_R := by
  intro m_imagesKept m_bads m_nos m_fulls m_above m_below m_now_words m_now_people m_now_said m_now_undos m_now_heard m_now_ending m_now_meaning m_now_cost m_now_alikeTo m_now_kind m_now_want m_now_saidAhead m_now_heardWord m_now_heardAnswer m_draft_words m_draft_people m_draft_said m_draft_undos m_draft_heard m_draft_ending m_draft_meaning m_draft_cost m_draft_alikeTo m_draft_kind m_draft_want m_draft_saidAhead m_draft_heardWord m_draft_heardAnswer m_images_0_words m_images_0_people m_images_0_said m_images_0_undos m_images_0_heard m_images_0_ending m_images_0_meaning m_images_0_cost m_images_0_alikeTo m_images_0_kind m_images_0_want m_images_0_saidAhead m_images_0_heardWord m_images_0_heardAnswer m_images_1_words m_images_1_people m_images_1_said m_images_1_undos m_images_1_heard m_images_1_ending m_images_1_meaning m_images_1_cost m_images_1_alikeTo m_images_1_kind m_images_1_want m_images_1_saidAhead m_images_1_heardWord m_images_1_heardAnswer m_text_length m_text_items m_text_place m_text_start m_text_token m_text_number m_text_bytes m_duel_words m_duel_saidAtFirst m_duel_asked m_duel_longest m_duel_shortest m_duel_chimesOfFirst m_duel_chimesOfSecond m_duel_lasts m_cover_sayable m_cover_price m_cover_covered m_cover_spent m_clashes m_tally m_sayableByPair m_chosenPairs n_thrown n_size n_at n_start n_token n_value n_faultAt n_allowed n_firstPair n_secondPair n_above n_below n_refused n_tongue n_fresh n_kept n_isKept n_text n_said n_talk hR x1 x2
  obtain ⟨hT, hX, hF, hA, hI, hC⟩ := hR
  have hT0 := hT
  obtain ⟨w, p, u, h, en, mn, cn, kn, wn, ⟨hw, hp, hu8, hh6⟩, ⟨rfl, rfl, rfl, rfl⟩, hrE, hrP, hr2, hco, hE, hM, hP, hs, hir, hh, hu, hsd⟩ := hT
  cases hi : inr x1 p with
  | false =>
    have h1 : fX10_about N m_bads m_nos m_fulls (nI p) m_now_kind m_now_want x1 x2 = some (-2, m_bads + 1, m_nos, m_fulls) := by
      unfold fX10_about fX10_about_b16
      rw [s_isPerson x1 (by omega), gm_bind_s, hi, if_pos (by decide), s_refB, gm_bind_s]
    have h2 : fX11_about N n_thrown n_refused n_tongue x1 x2 = some (-2, 0, upd n_refused 0 (n_refused 0 + 1)) := by
      unfold fX11_about fX11_about_b23
      rw [s_noPerson x1 hrP.1 (by omega), gm_bind_s, hi, if_neg (by decide), s_bad, gm_bind_s]
    exact ⟨_, _, h1, h2, rfl, hT0, hX, RFb hF, hA, hI, hC⟩
  | true =>
    obtain ⟨a, ha, rfl⟩ := inr_t hi (by omega)
    cases hi2 : inr x2 2 with
    | false =>
      have h1 : fX10_about N m_bads m_nos m_fulls (nI p) m_now_kind m_now_want (nI a) x2 = some (-2, m_bads + 1, m_nos, m_fulls) := by
        unfold fX10_about fX10_about_b16
        rw [s_isPerson (nI a) (by omega), gm_bind_s, hi, if_neg (by decide), s_fl x2 2 2 rfl (by decide), gm_bind_s, hi2, if_pos (by decide), s_refB, gm_bind_s]
      have h2 : fX11_about N n_thrown n_refused n_tongue (nI a) x2 = some (-2, 0, upd n_refused 0 (n_refused 0 + 1)) := by
        unfold fX11_about fX11_about_b23
        rw [s_noPerson (nI a) hrP.1 (by omega), gm_bind_s, hi, if_pos (by decide), s_in (B := 2) x2 1 (by decide), gm_bind_s, hi2, if_pos (by decide), s_bad, gm_bind_s]
      exact ⟨_, _, h1, h2, rfl, hT0, hX, RFb hF, hA, hI, hC⟩
    | true =>
      obtain ⟨k, hk, rfl⟩ := inr_t hi2 (by decide)
      have h1 : fX10_about N m_bads m_nos m_fulls (nI p) m_now_kind m_now_want (nI a) (nI k) = some (if k = 0 then m_now_kind a else m_now_want a, m_bads, m_nos, m_fulls) := by
        unfold fX10_about
        rw [s_isPerson (nI a) (by omega), gm_bind_s, hi, if_neg (by decide), s_fl (nI k) 2 2 rfl (by decide), gm_bind_s, hi2, if_neg (by decide)]
        rcases (show k = 0 ∨ k = 1 by omega) with rfl | rfl
        · rw [if_pos (by decide), gm_chk_n (by omega) (by decide), cl_n (by omega), if_pos rfl]
        · rw [if_neg (by decide), gm_chk_n (by omega) (by decide), cl_n (by omega), if_neg (by decide)]
      have h2 : fX11_about N n_thrown n_refused n_tongue (nI a) (nI k) = some (if k = 0 then m_now_kind a else m_now_want a, 0, n_refused) := by
        unfold fX11_about
        rw [s_noPerson (nI a) hrP.1 (by omega), gm_bind_s, hi, if_pos (by decide), s_in (B := 2) (nI k) 1 (by decide), gm_bind_s, hi2, if_neg (by decide)]
        rcases (show k = 0 ∨ k = 1 by omega) with rfl | rfl
        · rw [ix2, nI_add, gm_chk_n (by omega) (by decide), cl_n (by omega), if_pos rfl, ← (hrP.2 a ha).1]; rfl
        · rw [ix2, nI_add, gm_chk_n (by omega) (by decide), cl_n (by omega), if_neg (by decide), ← (hrP.2 a ha).2]
      exact ⟨_, _, h1, h2, rfl, hT0, hX, hF, hA, hI, hC⟩

set_option maxHeartbeats 4000000 in
theorem sim_answers {N : Nat} (hN : 3000 ≤ N) : S_answers N gm_R := by
  intro m_imagesKept m_bads m_nos m_fulls m_above m_below m_now_words m_now_people m_now_said m_now_undos m_now_heard m_now_ending m_now_meaning m_now_cost m_now_alikeTo m_now_kind m_now_want m_now_saidAhead m_now_heardWord m_now_heardAnswer m_draft_words m_draft_people m_draft_said m_draft_undos m_draft_heard m_draft_ending m_draft_meaning m_draft_cost m_draft_alikeTo m_draft_kind m_draft_want m_draft_saidAhead m_draft_heardWord m_draft_heardAnswer m_images_0_words m_images_0_people m_images_0_said m_images_0_undos m_images_0_heard m_images_0_ending m_images_0_meaning m_images_0_cost m_images_0_alikeTo m_images_0_kind m_images_0_want m_images_0_saidAhead m_images_0_heardWord m_images_0_heardAnswer m_images_1_words m_images_1_people m_images_1_said m_images_1_undos m_images_1_heard m_images_1_ending m_images_1_meaning m_images_1_cost m_images_1_alikeTo m_images_1_kind m_images_1_want m_images_1_saidAhead m_images_1_heardWord m_images_1_heardAnswer m_text_length m_text_items m_text_place m_text_start m_text_token m_text_number m_text_bytes m_duel_words m_duel_saidAtFirst m_duel_asked m_duel_longest m_duel_shortest m_duel_chimesOfFirst m_duel_chimesOfSecond m_duel_lasts m_cover_sayable m_cover_price m_cover_covered m_cover_spent m_clashes m_tally m_sayableByPair m_chosenPairs n_thrown n_size n_at n_start n_token n_value n_faultAt n_allowed n_firstPair n_secondPair n_above n_below n_refused n_tongue n_fresh n_kept n_isKept n_text n_said n_talk hR x1 x2 x3
  obtain ⟨hT, hX, hF, hA, hI, hC⟩ := hR
  have hT0 := hT
  obtain ⟨w, p, u, h, en, mn, cn, kn, wn, ⟨hw, hp, hu8, hh6⟩, ⟨rfl, rfl, rfl, rfl⟩, hrE, hrP, hr2, hco, hE, hM, hP, hs, hir, hh, hu, hsd⟩ := hT
  cases hi : inr x1 p with
  | false =>
    have h1 : fX10_answers N m_bads m_nos m_fulls (nI w) (nI p) m_now_said m_now_ending m_now_meaning m_now_alikeTo m_now_kind m_now_want x1 x2 x3 = some (-2, m_bads + 1, m_nos, m_fulls) := by
      unfold fX10_answers fX10_answers_b24
      rw [s_isPerson x1 (by omega), gm_bind_s, hi, if_pos (by decide), s_refB, gm_bind_s]
    have h2 : fX11_answers N n_thrown n_refused n_tongue x1 x2 x3 = some (-2, 0, upd n_refused 0 (n_refused 0 + 1)) := by
      unfold fX11_answers fX11_answers_b33
      rw [s_noPerson x1 hrP.1 (by omega), gm_bind_s, hi, if_neg (by decide), s_bad, gm_bind_s]
    exact ⟨_, _, h1, h2, rfl, hT0, hX, RFb hF, hA, hI, hC⟩
  | true =>
    obtain ⟨j, hj, rfl⟩ := inr_t hi (by omega)
    cases hi2 : inr x2 w with
    | false =>
      have h1 : fX10_answers N m_bads m_nos m_fulls (nI w) (nI p) m_now_said m_now_ending m_now_meaning m_now_alikeTo m_now_kind m_now_want (nI j) x2 x3 = some (-2, m_bads + 1, m_nos, m_fulls) := by
        unfold fX10_answers fX10_answers_b24
        rw [s_isPerson (nI j) (by omega), gm_bind_s, hi, if_neg (by decide), s_isWord x2 (by omega), gm_bind_s, hi2, if_pos (by decide), s_refB, gm_bind_s]
      have h2 : fX11_answers N n_thrown n_refused n_tongue (nI j) x2 x3 = some (-2, 0, upd n_refused 0 (n_refused 0 + 1)) := by
        unfold fX11_answers fX11_answers_b33
        rw [s_noPerson (nI j) hrP.1 (by omega), gm_bind_s, hi, if_pos (by decide), s_noWord x2 hrE.1 (by omega), gm_bind_s, hi2, if_neg (by decide), s_bad, gm_bind_s]
      exact ⟨_, _, h1, h2, rfl, hT0, hX, RFb hF, hA, hI, hC⟩
    | true =>
      obtain ⟨a, ha, rfl⟩ := inr_t hi2 (by omega)
      cases hi3 : inr x3 3 with
      | false =>
        have h1 : fX10_answers N m_bads m_nos m_fulls (nI w) (nI p) m_now_said m_now_ending m_now_meaning m_now_alikeTo m_now_kind m_now_want (nI j) (nI a) x3 = some (-2, m_bads + 1, m_nos, m_fulls) := by
          unfold fX10_answers fX10_answers_b24
          rw [s_isPerson (nI j) (by omega), gm_bind_s, hi, if_neg (by decide), s_isWord (nI a) (by omega), gm_bind_s, hi2, if_neg (by decide), s_fl x3 3 3 rfl (by decide), gm_bind_s, hi3, if_pos (by decide), s_refB, gm_bind_s]
        have h2 : fX11_answers N n_thrown n_refused n_tongue (nI j) (nI a) x3 = some (-2, 0, upd n_refused 0 (n_refused 0 + 1)) := by
          unfold fX11_answers fX11_answers_b33
          rw [s_noPerson (nI j) hrP.1 (by omega), gm_bind_s, hi, if_pos (by decide), s_noWord (nI a) hrE.1 (by omega), gm_bind_s, hi2, if_pos (by decide), s_in (B := 3) x3 2 (by decide), gm_bind_s, hi3, if_pos (by decide), s_bad, gm_bind_s]
        exact ⟨_, _, h1, h2, rfl, hT0, hX, RFb hF, hA, hI, hC⟩
      | true =>
        obtain ⟨k, hk, rfl⟩ := inr_t hi3 (by decide)
        have h1 : fX10_answers N m_bads m_nos m_fulls (nI w) (nI p) m_now_said m_now_ending m_now_meaning m_now_alikeTo m_now_kind m_now_want (nI j) (nI a) (nI k) = some (if k = 0 then bs (chi (kn j) (m_now_want j) en m_now_meaning m_now_alikeTo a) w else if k = 1 then ans (kn j) (m_now_want j) en m_now_meaning m_now_alikeTo w m_now_said a else ms mn (bt (ans (kn j) (m_now_want j) en m_now_meaning m_now_alikeTo w m_now_said a)) w, m_bads, m_nos, m_fulls) := by
          unfold fX10_answers
          rw [s_isPerson (nI j) (by omega), gm_bind_s, hi, if_neg (by decide), s_isWord (nI a) (by omega), gm_bind_s, hi2, if_neg (by decide), s_fl (nI k) 3 3 rfl (by decide), gm_bind_s, hi3, if_neg (by decide)]
          rcases (show k = 0 ∨ k = 1 ∨ k = 2 by omega) with rfl | rfl | rfl
          · rw [if_pos (by decide), gm_chk_n (by omega) (by decide), cl_n (by omega), (hP j hj).2.1, gm_chk_n (hP j hj).1 (by decide), gm_chk_n (by omega) (by decide), s_KD (by omega) hw hE ha (hP j hj).1, gm_bind_s, if_pos rfl]
          · rw [if_neg (by decide), if_pos (by decide), s_answerBits (by omega) hw hp hE hP hj ha, gm_bind_s, if_neg (by decide), if_pos rfl]
          · rw [if_neg (by decide), if_neg (by decide), s_sayable (by omega) hw hp hE hM hP hj ha, gm_bind_s, if_neg (by decide), if_neg (by decide)]
        have h2 : fX11_answers N n_thrown n_refused n_tongue (nI j) (nI a) (nI k) = some (if k = 0 then bs (chi (kn j) (m_now_want j) en m_now_meaning m_now_alikeTo a) w else if k = 1 then ans (kn j) (m_now_want j) en m_now_meaning m_now_alikeTo w m_now_said a else ms mn (bt (ans (kn j) (m_now_want j) en m_now_meaning m_now_alikeTo w m_now_said a)) w, 0, n_refused) := by
          unfold fX11_answers
          rw [s_noPerson (nI j) hrP.1 (by omega), gm_bind_s, hi, if_pos (by decide), s_noWord (nI a) hrE.1 (by omega), gm_bind_s, hi2, if_pos (by decide), s_in (B := 3) (nI k) 2 (by decide), gm_bind_s, hi3, if_neg (by decide)]
          rcases (show k = 0 ∨ k = 1 ∨ k = 2 by omega) with rfl | rfl | rfl
          · rw [if_pos (by decide), s_MchimesWith (by omega) hrE hrP hw hp hE hP hs hj ha, gm_bind_s, if_pos rfl]
          · rw [if_neg (by decide), if_pos (by decide), s_MansTo (by omega) hrE hrP hr2.1 hw hp hE hP hs hj ha, gm_bind_s, if_neg (by decide), if_pos rfl]
          · rw [if_neg (by decide), if_neg (by decide), s_McanSay (by omega) hrE hrP hr2.1 hw hp hE hM hP hs hj ha, gm_bind_s, if_neg (by decide), if_neg (by decide)]
        exact ⟨_, _, h1, h2, rfl, hT0, hX, hF, hA, hI, hC⟩
