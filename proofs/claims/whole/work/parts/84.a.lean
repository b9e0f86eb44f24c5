/-! ===== pairs that are alike ===== -/
theorem small8 {x : Int32} (h : ∀ i, 8 ≤ i → bt x i = false) : ∃ v, v < 256 ∧ x = nI v := by
  obtain ⟨j, hj, e⟩ := pk_andE x (m := 255) 8 (by decide)
  refine ⟨j, hj, ?_⟩
  rw [← e]
  apply b_ext
  intro i hi
  rw [b_and, b_255]
  rcases Nat.lt_or_ge i 8 with q | q
  · simp [q]
  · simp [h i q]
theorem bc_sm8 {x : Int32} (h : ∀ i, 8 ≤ i → bt x i = false) : bc x = sm x 10 := by
  obtain ⟨v, hv, rfl⟩ := small8 h
  exact bc_sm v (by omega)
def pr (al : Nat → Int32) : Nat → Int32
  | 0 => 0
  | n + 1 => pr al n + bc (al n)
theorem s_alikePairs {N : Nat} (hN : 11 ≤ N) (al : Nat → Int32) : fX9_alikePairs N al = some (pr al 8 / 2) := by
  unfold fX9_alikePairs fX9_alikePairs_b4
  refine fx2 (fun d a b => ∃ i, i + d = 8 ∧ b = nI i ∧ a = pr al i) (fun o => o = some (pr al 8 / 2)) ?_ N 8 0 0 (by omega) ⟨0, by omega, rfl, rfl⟩
  intro r d a b hI hr
  obtain ⟨i, hi, rfl, rfl⟩ := hI
  unfold fX9_alikePairs_b4_body
  rcases Nat.eq_zero_or_pos d with h0 | h0
  · rw [if_pos (show (8 : Int32) ≤ nI i from nI_le (a := 8) (by omega) (by omega)), gm_nz_ok (by decide), show i = 8 by omega]
  · rw [if_neg (show ¬ (8 : Int32) ≤ nI i from nI_ge (b := 8) (by omega) (by omega)), gm_chk_n (by omega) (by decide), cl_n (by omega), s_bitCount, gm_bind_s, gm_let_s]
    exact hr _ _ (d - 1) (by omega) ⟨i + 1, by omega, nI_1 i, rfl⟩
theorem s_Mpairs {N : Nat} (hN : 11 ≤ N) {f al : Nat → Int32} (hf : ∀ a, a < 8 → f (45 + a) = al a) (hb : ∀ a, a < 8 → ∀ i, 8 ≤ i → bt (al a) i = false) : fX11_pairs N f = some (pr al 8 / 2) := by
  unfold fX11_pairs fX11_pairs_b4
  refine fx2 (fun d a b => ∃ i, i + d = 8 ∧ b = nI i ∧ a = pr al i) (fun o => o = some (pr al 8 / 2)) ?_ N 8 0 0 (by omega) ⟨0, by omega, rfl, rfl⟩
  intro r d a b hI hr
  obtain ⟨i, hi, rfl, rfl⟩ := hI
  unfold fX11_pairs_b4_body
  rcases Nat.eq_zero_or_pos d with h0 | h0
  · rw [if_pos (show (8 : Int32) ≤ nI i from nI_le (a := 8) (by omega) (by omega)), gm_nz_ok (by decide), show i = 8 by omega]
  · rw [if_neg (show ¬ (8 : Int32) ≤ nI i from nI_ge (b := 8) (by omega) (by omega)), ix45, gm_chk_n (by omega) (by decide), cl_n (by omega), hf i (by omega), s_bits (by omega), gm_bind_s, gm_let_s, ← bc_sm8 (hb i (by omega))]
    exact hr _ _ (d - 1) (by omega) ⟨i + 1, by omega, nI_1 i, rfl⟩
/-- how many, by what -/
def hm (w p said u h al8 len : Int32) (k : Nat) : Int32 := if k = 0 then w else if k = 1 then p else if k = 2 then al8 else if k = 3 then said else if k = 4 then h else if k = 5 then u else len
theorem s_howMany {N k : Nat} (hN : 11 ≤ N) (hk : k < 7) (w p said u h len : Int32) (al : Nat → Int32) : fX10_howMany N w p said u h al len (nI k) = some (hm w p (bc said) u h (pr al 8 / 2) len k) := by
  unfold fX10_howMany
  rcases (show k = 0 ∨ k = 1 ∨ k = 2 ∨ k = 3 ∨ k = 4 ∨ k = 5 ∨ k = 6 by omega) with rfl | rfl | rfl | rfl | rfl | rfl | rfl
  · rw [if_pos (by decide)]; rfl
  · rw [if_neg (by decide), if_pos (by decide)]; rfl
  · rw [if_neg (by decide), if_neg (by decide), if_pos (by decide), s_alikePairs hN, gm_bind_s]; rfl
  · rw [if_neg (by decide), if_neg (by decide), if_neg (by decide), if_pos (by decide), s_bitCount, gm_bind_s]; rfl
  · rw [if_neg (by decide), if_neg (by decide), if_neg (by decide), if_neg (by decide), if_pos (by decide)]; rfl
  · rw [if_neg (by decide), if_neg (by decide), if_neg (by decide), if_neg (by decide), if_neg (by decide), if_pos (by decide)]; rfl
  · rw [if_neg (by decide), if_neg (by decide), if_neg (by decide), if_neg (by decide), if_neg (by decide), if_neg (by decide)]; rfl
theorem s_countOf {N k : Nat} (hN : 11 ≤ N) (hk : k < 7) {f al : Nat → Int32} {size : Int32} (hf : ∀ a, a < 8 → f (45 + a) = al a) (hb : ∀ a, a < 8 → ∀ i, 8 ≤ i → bt (al a) i = false) (hs : sm (f 2) 10 = bc (f 2)) : fX11_countOf N size f (nI k) = some (hm (f 0) (f 1) (bc (f 2)) (f 4) (f 3) (pr al 8 / 2) size k) := by
  unfold fX11_countOf
  rcases (show k = 0 ∨ k = 1 ∨ k = 2 ∨ k = 3 ∨ k = 4 ∨ k = 5 ∨ k = 6 by omega) with rfl | rfl | rfl | rfl | rfl | rfl | rfl
  · rw [if_pos (by decide), ck0 (by decide), cl0]; rfl
  · rw [if_neg (by decide), if_pos (by decide), ck1 (by decide), cl1]; rfl
  · rw [if_neg (by decide), if_neg (by decide), if_pos (by decide), s_Mpairs hN hf hb, gm_bind_s]; rfl
  · rw [if_neg (by decide), if_neg (by decide), if_neg (by decide), if_pos (by decide), ck2 (by decide), cl2, s_bits hN, gm_bind_s, hs]; rfl
  · rw [if_neg (by decide), if_neg (by decide), if_neg (by decide), if_neg (by decide), if_pos (by decide), ck3 (by decide), cl3]; rfl
  · rw [if_neg (by decide), if_neg (by decide), if_neg (by decide), if_neg (by decide), if_neg (by decide), if_pos (by decide), ck4 (by decide), cl4]; rfl
  · rw [if_neg (by decide), if_neg (by decide), if_neg (by decide), if_neg (by decide), if_neg (by decide), if_neg (by decide)]; rfl
/-- asks -/
theorem s_asksL {N w p j c : Nat} {b n fl sd : Int32} {e m al kd wt : Nat → Int32} {en mn kn wn : Nat → Nat} (hN : 11 ≤ N) (hw : w ≤ 10) (hp : p ≤ 5) (he : okE w e en) (hm : okM w m mn) (hk : okP p kd wt kn wn) (hj : j < p) (hc : c < 8) : fX10_asks_b29 N b n fl (nI w) sd e m al kd wt (nI j) (nI c) 0 0 = some (bs (fun i => bt (ms mn (bt (ans (kn j) (wt j) en m al w sd i)) w) c) w, b, n, fl) := by
  unfold fX10_asks_b29
  refine fx2 (fun d x y => ∃ i, i + d = w ∧ y = nI i ∧ x = bs (fun i => bt (ms mn (bt (ans (kn j) (wt j) en m al w sd i)) w) c) i) (fun o => o = some (bs (fun i => bt (ms mn (bt (ans (kn j) (wt j) en m al w sd i)) w) c) w, b, n, fl)) ?_ N w 0 0 (by omega) ⟨0, by omega, rfl, rfl⟩
  intro r d x y hI hr
  obtain ⟨i, hi, rfl, rfl⟩ := hI
  unfold fX10_asks_b29_body
  rcases Nat.eq_zero_or_pos d with h0 | h0
  · rw [hd_end (by omega) (by omega), show i = w by omega]
  · have hiw : i < w := by omega
    rw [hd_go hiw (by omega), s_sayable hN hw hp he hm hk hj hiw, gm_bind_s, gm_let_s, b_get _ c (by omega)]
    refine hr _ _ (d - 1) (by omega) ⟨i + 1, by omega, nI_1 i, ?_⟩
    rw [bs]
    congr 1
    cases bt (ms mn (bt (ans (kn j) (wt j) en m al w sd i)) w) c
    · simp
    · simp
theorem s_MasksL {N w p j c : Nat} {t sd : Int32} {rf f e m al kd wt : Nat → Int32} {en mn kn wn : Nat → Nat} (hN : 11 ≤ N) (hf : rowE w f e m al) (hg : rowP p f kd wt) (hsd : f 2 = sd) (hw : w ≤ 10) (hp : p ≤ 5) (he : okE w e en) (hm : okM w m mn) (hk : okP p kd wt kn wn) (hs : symA al) (hj : j < p) (hc : c < 8) : fX11_asks_b35 N t rf f (nI j) (nI c) 0 0 = some (bs (fun i => bt (ms mn (bt (ans (kn j) (wt j) en m al w sd i)) w) c) w, t, rf) := by
  unfold fX11_asks_b35
  refine fx2 (fun d x y => ∃ i, i + d = w ∧ y = nI i ∧ x = bs (fun i => bt (ms mn (bt (ans (kn j) (wt j) en m al w sd i)) w) c) i) (fun o => o = some (bs (fun i => bt (ms mn (bt (ans (kn j) (wt j) en m al w sd i)) w) c) w, t, rf)) ?_ N w 0 0 (by omega) ⟨0, by omega, rfl, rfl⟩
  intro r d x y hI hr
  obtain ⟨i, hi, rfl, rfl⟩ := hI
  unfold fX11_asks_b35_body fX11_asks_b69
  rw [ck0 (by decide), cl0, hf.1]
  rcases Nat.eq_zero_or_pos d with h0 | h0
  · rw [hd_end (by omega) (by omega), show i = w by omega]
  · have hiw : i < w := by omega
    rw [hd_go hiw (by omega), s_McanSay hN hf hg hsd hw hp he hm hk hs hj hiw, gm_bind_s, s_Mhas _ (by omega), gm_bind_s]
    cases hb : bt (ms mn (bt (ans (kn j) (wt j) en m al w sd i)) w) c with
    | false =>
      rw [if_pos (by simp [bi]), gm_let_s]
      refine hr _ _ (d - 1) (by omega) ⟨i + 1, by omega, nI_1 i, ?_⟩
      rw [bs, hb, if_neg (by decide)]
    | true =>
      rw [if_neg (by simp [bi]), gm_let_s]
      refine hr _ _ (d - 1) (by omega) ⟨i + 1, by omega, nI_1 i, ?_⟩
      rw [bs, hb, if_pos rfl]
set_option maxHeartbeats 4000000 in
theorem sim_count {N : Nat} (hN : 3000 ≤ N) : S_count N gm_R := by
  intro m_imagesKept m_bads m_nos m_fulls m_above m_below m_now_words m_now_people m_now_said m_now_undos m_now_heard m_now_ending m_now_meaning m_now_cost m_now_alikeTo m_now_kind m_now_want m_now_saidAhead m_now_heardWord m_now_heardAnswer m_draft_words m_draft_people m_draft_said m_draft_undos m_draft_heard m_draft_ending m_draft_meaning m_draft_cost m_draft_alikeTo m_draft_kind m_draft_want m_draft_saidAhead m_draft_heardWord m_draft_heardAnswer m_images_0_words m_images_0_people m_images_0_said m_images_0_undos m_images_0_heard m_images_0_ending m_images_0_meaning m_images_0_cost m_images_0_alikeTo m_images_0_kind m_images_0_want m_images_0_saidAhead m_images_0_heardWord m_images_0_heardAnswer m_images_1_words m_images_1_people m_images_1_said m_images_1_undos m_images_1_heard m_images_1_ending m_images_1_meaning m_images_1_cost m_images_1_alikeTo m_images_1_kind m_images_1_want m_images_1_saidAhead m_images_1_heardWord m_images_1_heardAnswer m_text_length m_text_items m_text_place m_text_start m_text_token m_text_number m_text_bytes m_duel_words m_duel_saidAtFirst m_duel_asked m_duel_longest m_duel_shortest m_duel_chimesOfFirst m_duel_chimesOfSecond m_duel_lasts m_cover_sayable m_cover_price m_cover_covered m_cover_spent m_clashes m_tally m_sayableByPair m_chosenPairs n_thrown n_size n_at n_start n_token n_value n_faultAt n_allowed n_firstPair n_secondPair n_above n_below n_refused n_tongue n_fresh n_kept n_isKept n_text n_said n_talk hR x1
  obtain ⟨hT, hX, hF, hA, hI, hC⟩ := hR
  have hT0 := hT
  obtain ⟨w, p, u, h, en, mn, cn, kn, wn, ⟨hw, hp, hu8, hh6⟩, hq, hrE, hrP, hr2, hco, hE, hM, hP, hs, hir, hh, hu, ⟨v, hv, hsv⟩⟩ := hT
  have hX0 := hX
  obtain ⟨n, hn, e1, e2, hb⟩ := hX
  cases hi : inr x1 7 with
  | false =>
    have h1 : fX10_count N m_bads m_nos m_fulls m_now_words m_now_people m_now_said m_now_undos m_now_heard m_now_alikeTo m_text_length x1 = some (-2, m_bads + 1, m_nos, m_fulls) := by
      unfold fX10_count
      rw [s_fl x1 7 7 rfl (by decide), gm_bind_s, hi, if_pos (by decide), s_refB, gm_bind_s]
    have h2 : fX11_count N n_thrown n_size n_refused n_tongue x1 = some (-2, 0, upd n_refused 0 (n_refused 0 + 1)) := by
      unfold fX11_count
      rw [s_in (B := 7) x1 6 (by decide), gm_bind_s, hi, if_pos (by decide), s_bad, gm_bind_s]
    exact ⟨_, _, h1, h2, rfl, hT0, hX0, RFb hF, hA, hI, hC⟩
  | true =>
    obtain ⟨k, hk, rfl⟩ := inr_t hi (by decide)
    have h1 : fX10_count N m_bads m_nos m_fulls m_now_words m_now_people m_now_said m_now_undos m_now_heard m_now_alikeTo m_text_length (nI k) = some (hm m_now_words m_now_people (bc m_now_said) m_now_undos m_now_heard (pr m_now_alikeTo 8 / 2) m_text_length k, m_bads, m_nos, m_fulls) := by
      unfold fX10_count
      rw [s_fl (nI k) 7 7 rfl (by decide), gm_bind_s, hi, if_neg (by decide), s_howMany (by omega) hk, gm_bind_s]
    have h2 : fX11_count N n_thrown n_size n_refused n_tongue (nI k) = some (hm m_now_words m_now_people (bc m_now_said) m_now_undos m_now_heard (pr m_now_alikeTo 8 / 2) m_text_length k, 0, n_refused) := by
      unfold fX11_count
      rw [s_in (B := 7) (nI k) 6 (by decide), gm_bind_s, hi, if_neg (by decide), s_countOf (al := m_now_alikeTo) (by omega) hk hrE.2.2 (fun a ha => (hir a ha).2) (by rw [hr2.1, hsv]; exact (bc_sm2 hw hv).symm), gm_bind_s, hrE.1, hrP.1, hr2.1, hr2.2.1, hr2.2.2, ← hq.1, ← hq.2.1, e2, ← e1]
    exact ⟨_, _, h1, h2, rfl, hT0, hX0, hF, hA, hI, hC⟩

set_option maxHeartbeats 4000000 in
theorem sim_asks {N : Nat} (hN : 3000 ≤ N) : S_asks N gm_R := by
  intro m_imagesKept m_bads m_nos m_fulls m_above m_below m_now_words m_now_people m_now_said m_now_undos m_now_heard m_now_ending m_now_meaning m_now_cost m_now_alikeTo m_now_kind m_now_want m_now_saidAhead m_now_heardWord m_now_heardAnswer m_draft_words m_draft_people m_draft_said m_draft_undos m_draft_heard m_draft_ending m_draft_meaning m_draft_cost m_draft_alikeTo m_draft_kind m_draft_want m_draft_saidAhead m_draft_heardWord m_draft_heardAnswer m_images_0_words m_images_0_people m_images_0_said m_images_0_undos m_images_0_heard m_images_0_ending m_images_0_meaning m_images_0_cost m_images_0_alikeTo m_images_0_kind m_images_0_want m_images_0_saidAhead m_images_0_heardWord m_images_0_heardAnswer m_images_1_words m_images_1_people m_images_1_said m_images_1_undos m_images_1_heard m_images_1_ending m_images_1_meaning m_images_1_cost m_images_1_alikeTo m_images_1_kind m_images_1_want m_images_1_saidAhead m_images_1_heardWord m_images_1_heardAnswer m_text_length m_text_items m_text_place m_text_start m_text_token m_text_number m_text_bytes m_duel_words m_duel_saidAtFirst m_duel_asked m_duel_longest m_duel_shortest m_duel_chimesOfFirst m_duel_chimesOfSecond m_duel_lasts m_cover_sayable m_cover_price m_cover_covered m_cover_spent m_clashes m_tally m_sayableByPair m_chosenPairs n_thrown n_size n_at n_start n_token n_value n_faultAt n_allowed n_firstPair n_secondPair n_above n_below n_refused n_tongue n_fresh n_kept n_isKept n_text n_said n_talk hR x1 x2
  obtain ⟨hT, hX, hF, hA, hI, hC⟩ := hR
  have hT0 := hT
  obtain ⟨w, p, u, h, en, mn, cn, kn, wn, ⟨hw, hp, hu8, hh6⟩, ⟨rfl, rfl, rfl, rfl⟩, hrE, hrP, hr2, hco, hE, hM, hP, hs, hir, hh, hu, hsd⟩ := hT
  cases hi : inr x1 p with
  | false =>
    have h1 : fX10_asks N m_bads m_nos m_fulls (nI w) (nI p) m_now_said m_now_ending m_now_meaning m_now_alikeTo m_now_kind m_now_want x1 x2 = some (-2, m_bads + 1, m_nos, m_fulls) := by
      unfold fX10_asks fX10_asks_b17
      rw [s_isPerson x1 (by omega), gm_bind_s, hi, if_pos (by decide), s_refB, gm_bind_s]
    have h2 : fX11_asks N n_thrown n_refused n_tongue x1 x2 = some (-2, 0, upd n_refused 0 (n_refused 0 + 1)) := by
      unfold fX11_asks fX11_asks_b25
      rw [s_noPerson x1 hrP.1 (by omega), gm_bind_s, hi, if_neg (by decide), s_bad, gm_bind_s]
    exact ⟨_, _, h1, h2, rfl, hT0, hX, RFb hF, hA, hI, hC⟩
  | true =>
    obtain ⟨j, hj, rfl⟩ := inr_t hi (by omega)
    cases hi2 : inr x2 8 with
    | false =>
      have h1 : fX10_asks N m_bads m_nos m_fulls (nI w) (nI p) m_now_said m_now_ending m_now_meaning m_now_alikeTo m_now_kind m_now_want (nI j) x2 = some (-2, m_bads + 1, m_nos, m_fulls) := by
        unfold fX10_asks fX10_asks_b17
        rw [s_isPerson (nI j) (by omega), gm_bind_s, hi, if_neg (by decide), s_fl x2 8 8 rfl (by decide), gm_bind_s, hi2, if_pos (by decide), s_refB, gm_bind_s]
      have h2 : fX11_asks N n_thrown n_refused n_tongue (nI j) x2 = some (-2, 0, upd n_refused 0 (n_refused 0 + 1)) := by
        unfold fX11_asks fX11_asks_b25
        rw [s_noPerson (nI j) hrP.1 (by omega), gm_bind_s, hi, if_pos (by decide), s_in (B := 8) x2 7 (by decide), gm_bind_s, hi2, if_pos (by decide), s_bad, gm_bind_s]
      exact ⟨_, _, h1, h2, rfl, hT0, hX, RFb hF, hA, hI, hC⟩
    | true =>
      obtain ⟨c, hc, rfl⟩ := inr_t hi2 (by decide)
      have h1 : fX10_asks N m_bads m_nos m_fulls (nI w) (nI p) m_now_said m_now_ending m_now_meaning m_now_alikeTo m_now_kind m_now_want (nI j) (nI c) = some (bs (fun i => bt (ms mn (bt (ans (kn j) (m_now_want j) en m_now_meaning m_now_alikeTo w m_now_said i)) w) c) w, m_bads, m_nos, m_fulls) := by
        unfold fX10_asks
        rw [s_isPerson (nI j) (by omega), gm_bind_s, hi, if_neg (by decide), s_fl (nI c) 8 8 rfl (by decide), gm_bind_s, hi2, if_neg (by decide), s_asksL (by omega) hw hp hE hM hP hj hc]
      have h2 : fX11_asks N n_thrown n_refused n_tongue (nI j) (nI c) = some (bs (fun i => bt (ms mn (bt (ans (kn j) (m_now_want j) en m_now_meaning m_now_alikeTo w m_now_said i)) w) c) w, 0, n_refused) := by
        unfold fX11_asks
        rw [s_noPerson (nI j) hrP.1 (by omega), gm_bind_s, hi, if_pos (by decide), s_in (B := 8) (nI c) 7 (by decide), gm_bind_s, hi2, if_neg (by decide), s_MasksL (by omega) hrE hrP hr2.1 hw hp hE hM hP hs hj hc]
      exact ⟨_, _, h1, h2, rfl, hT0, hX, hF, hA, hI, hC⟩

set_option maxHeartbeats 4000000 in
theorem sim_person {N : Nat} (hN : 3000 ≤ N) : S_person N gm_R := by
  intro m_imagesKept m_bads m_nos m_fulls m_above m_below m_now_words m_now_people m_now_said m_now_undos m_now_heard m_now_ending m_now_meaning m_now_cost m_now_alikeTo m_now_kind m_now_want m_now_saidAhead m_now_heardWord m_now_heardAnswer m_draft_words m_draft_people m_draft_said m_draft_undos m_draft_heard m_draft_ending m_draft_meaning m_draft_cost m_draft_alikeTo m_draft_kind m_draft_want m_draft_saidAhead m_draft_heardWord m_draft_heardAnswer m_images_0_words m_images_0_people m_images_0_said m_images_0_undos m_images_0_heard m_images_0_ending m_images_0_meaning m_images_0_cost m_images_0_alikeTo m_images_0_kind m_images_0_want m_images_0_saidAhead m_images_0_heardWord m_images_0_heardAnswer m_images_1_words m_images_1_people m_images_1_said m_images_1_undos m_images_1_heard m_images_1_ending m_images_1_meaning m_images_1_cost m_images_1_alikeTo m_images_1_kind m_images_1_want m_images_1_saidAhead m_images_1_heardWord m_images_1_heardAnswer m_text_length m_text_items m_text_place m_text_start m_text_token m_text_number m_text_bytes m_duel_words m_duel_saidAtFirst m_duel_asked m_duel_longest m_duel_shortest m_duel_chimesOfFirst m_duel_chimesOfSecond m_duel_lasts m_cover_sayable m_cover_price m_cover_covered m_cover_spent m_clashes m_tally m_sayableByPair m_chosenPairs n_thrown n_size n_at n_start n_token n_value n_faultAt n_allowed n_firstPair n_secondPair n_above n_below n_refused n_tongue n_fresh n_kept n_isKept n_text n_said n_talk hR x1 x2
  obtain ⟨hT, hX, hF, hA, hI, hC⟩ := hR
  have hT0 := hT
  obtain ⟨w, p, u, h, en, mn, cn, kn, wn, ⟨hw, hp, hu8, hh6⟩, ⟨rfl, rfl, rfl, rfl⟩, hrE, hrP, hr2, hco, hE, hM, hP, hs, hir, hh, hu, hsd⟩ := hT
  cases hi : inr x1 6 with
  | false =>
    have h1 : fX10_person N m_bads m_nos m_fulls (nI p) m_now_kind m_now_want x1 x2 = some (-2, m_bads + 1, m_nos, m_fulls, nI p, m_now_kind, m_now_want) := by
      unfold fX10_person fX10_person_b18
      rw [s_fl x1 6 6 rfl (by decide), gm_bind_s, hi, if_pos (by decide), s_refB, gm_bind_s]
    have h2 : fX11_person N n_thrown n_refused n_tongue x1 x2 = some (-2, 0, upd n_refused 0 (n_refused 0 + 1), n_tongue) := by
      unfold fX11_person fX11_person_b29
      rw [s_in (B := 6) x1 5 (by decide), gm_bind_s, hi, if_pos (by decide), s_bad, gm_bind_s]
    exact ⟨_, _, h1, h2, rfl, hT0, hX, RFb hF, hA, hI, hC⟩
  | true =>
    obtain ⟨a, ha, rfl⟩ := inr_t hi (by decide)
    cases hi2 : inr x2 8 with
    | false =>
      have h1 : fX10_person N m_bads m_nos m_fulls (nI p) m_now_kind m_now_want (nI a) x2 = some (-2, m_bads + 1, m_nos, m_fulls, nI p, m_now_kind, m_now_want) := by
        unfold fX10_person fX10_person_b18
        rw [s_fl (nI a) 6 6 rfl (by decide), gm_bind_s, hi, if_neg (by decide), s_fl x2 8 8 rfl (by decide), gm_bind_s, hi2, if_pos (by decide), s_refB, gm_bind_s]
      have h2 : fX11_person N n_thrown n_refused n_tongue (nI a) x2 = some (-2, 0, upd n_refused 0 (n_refused 0 + 1), n_tongue) := by
        unfold fX11_person fX11_person_b29
        rw [s_in (B := 6) (nI a) 5 (by decide), gm_bind_s, hi, if_neg (by decide), s_in (B := 8) x2 7 (by decide), gm_bind_s, hi2, if_pos (by decide), s_bad, gm_bind_s]
      exact ⟨_, _, h1, h2, rfl, hT0, hX, RFb hF, hA, hI, hC⟩
    | true =>
      obtain ⟨b, hb, rfl⟩ := inr_t hi2 (by decide)
      rcases Nat.lt_or_ge p 5 with hl | hl
      · have h1 : fX10_person N m_bads m_nos m_fulls (nI p) m_now_kind m_now_want (nI a) (nI b) = some (nI p, m_bads, m_nos, m_fulls, nI (p + 1), upd m_now_kind p (nI a), upd m_now_want p (nI b)) := by
          unfold fX10_person
          rw [s_fl (nI a) 6 6 rfl (by decide), gm_bind_s, hi, if_neg (by decide), s_fl (nI b) 8 8 rfl (by decide), gm_bind_s, hi2, if_neg (by decide), if_pos (show nI p < 5 from nI_lt (b := 5) hl (by decide)), s_addPerson hl, gm_bind_s]
        have h2 : fX11_person N n_thrown n_refused n_tongue (nI a) (nI b) = some (nI p, 0, n_refused, upd (upd (upd n_tongue (35 + 2 * p) (nI a)) (35 + 2 * p + 1) (nI b)) 1 (nI (p + 1))) := by
          unfold fX11_person
          rw [s_in (B := 6) (nI a) 5 (by decide), gm_bind_s, hi, if_neg (by decide), s_in (B := 8) (nI b) 7 (by decide), gm_bind_s, hi2, if_neg (by decide), ck1 (by decide), cl1, hrP.1, if_neg (show ¬ nI p = 5 from fun q => by have := (nI_eq (a := p) (b := 5) (by omega) (by decide)).mp q; omega), s_MaddPerson hrP.1 hl, gm_bind_s, ck1 (by decide), upd_s, nI_m1 (by omega)]
          rfl
        have hT2 : RT (nI w) (nI (p + 1)) m_now_said (nI u) (nI h) m_now_ending m_now_meaning m_now_cost m_now_alikeTo (upd m_now_kind p (nI a)) (upd m_now_want p (nI b)) m_now_saidAhead m_now_heardWord m_now_heardAnswer (upd (upd (upd n_tongue (35 + 2 * p) (nI a)) (35 + 2 * p + 1) (nI b)) 1 (nI (p + 1))) := by
          have old : ∀ k, k ≠ 1 → (k < 35 + 2 * p ∨ 35 + 2 * p + 1 < k) → (upd (upd (upd n_tongue (35 + 2 * p) (nI a)) (35 + 2 * p + 1) (nI b)) 1 (nI (p + 1))) k = n_tongue k := fun k k0 k5 => by rw [upd_n k0, upd_n (by omega), upd_n (by omega)]
          refine ⟨w, p + 1, u, h, en, mn, cn, fun j => if j = p then a else kn j, fun j => if j = p then b else wn j, ⟨hw, by omega, hu8, hh6⟩, ⟨rfl, rfl, rfl, rfl⟩, ⟨?_, fun j hj => ⟨?_, ?_⟩, fun z hz => ?_⟩, ⟨upd_s, fun j hj => ?_⟩, ⟨?_, ?_, ?_⟩, fun j hj => ⟨?_, (hco j hj).2⟩, hE, hM, fun j hj => ?_, hs, hir, fun j hj => ⟨?_, ?_, (hh j hj).2.2⟩, fun j hj => ⟨?_, (hu j hj).2⟩, hsd⟩
          · rw [old 0 (by omega) (by omega)]; exact hrE.1
          · rw [old _ (by omega) (by omega)]; exact (hrE.2.1 j hj).1
          · rw [old _ (by omega) (by omega)]; exact (hrE.2.1 j hj).2
          · rw [old _ (by omega) (by omega)]; exact hrE.2.2 z hz
          · by_cases hjp : j = p
            · subst hjp
              exact ⟨by rw [upd_n (by omega), upd_n (by omega), upd_s, upd_s], by rw [upd_n (by omega), upd_s, upd_s]⟩
            · exact ⟨by rw [old _ (by omega) (by omega), upd_n hjp]; exact (hrP.2 j (by omega)).1, by rw [old _ (by omega) (by omega), upd_n hjp]; exact (hrP.2 j (by omega)).2⟩
          · rw [old 2 (by omega) (by omega)]; exact hr2.1
          · rw [old 3 (by omega) (by omega)]; exact hr2.2.1
          · rw [old 4 (by omega) (by omega)]; exact hr2.2.2
          · rw [old _ (by omega) (by omega)]; exact (hco j hj).1
          · by_cases hjp : j = p
            · subst hjp; simp only [if_pos]; exact ⟨ha, upd_s, hb, upd_s⟩
            · simp only [if_neg hjp]; exact ⟨(hP j (by omega)).1, by rw [upd_n hjp]; exact (hP j (by omega)).2.1, (hP j (by omega)).2.2.1, by rw [upd_n hjp]; exact (hP j (by omega)).2.2.2⟩
          · rw [old _ (by omega) (by omega)]; exact (hh j hj).1
          · rw [old _ (by omega) (by omega)]; exact (hh j hj).2.1
          · rw [old _ (by omega) (by omega)]; exact (hu j hj).1
        exact ⟨_, _, h1, h2, rfl, hT2, hX, hF, hA, hI, hC⟩
      · have hp2 : p = 5 := by omega
        subst hp2
        have h1 : fX10_person N m_bads m_nos m_fulls (nI 5) m_now_kind m_now_want (nI a) (nI b) = some (-4, m_bads, m_nos, m_fulls + 1, nI 5, m_now_kind, m_now_want) := by
          unfold fX10_person
          rw [s_fl (nI a) 6 6 rfl (by decide), gm_bind_s, hi, if_neg (by decide), s_fl (nI b) 8 8 rfl (by decide), gm_bind_s, hi2, if_neg (by decide), if_neg (by decide), s_refF, gm_bind_s]
        have h2 : fX11_person N n_thrown n_refused n_tongue (nI a) (nI b) = some (-4, 0, upd n_refused 2 (n_refused 2 + 1), n_tongue) := by
          unfold fX11_person
          rw [s_in (B := 6) (nI a) 5 (by decide), gm_bind_s, hi, if_neg (by decide), s_in (B := 8) (nI b) 7 (by decide), gm_bind_s, hi2, if_neg (by decide), ck1 (by decide), cl1, hrP.1, if_pos (by decide), s_full, gm_bind_s]
        exact ⟨_, _, h1, h2, rfl, hT0, hX, RFf hF, hA, hI, hC⟩
set_option maxHeartbeats 4000000 in
theorem sim_hear {N : Nat} (hN : 3000 ≤ N) : S_hear N gm_R := by
  intro m_imagesKept m_bads m_nos m_fulls m_above m_below m_now_words m_now_people m_now_said m_now_undos m_now_heard m_now_ending m_now_meaning m_now_cost m_now_alikeTo m_now_kind m_now_want m_now_saidAhead m_now_heardWord m_now_heardAnswer m_draft_words m_draft_people m_draft_said m_draft_undos m_draft_heard m_draft_ending m_draft_meaning m_draft_cost m_draft_alikeTo m_draft_kind m_draft_want m_draft_saidAhead m_draft_heardWord m_draft_heardAnswer m_images_0_words m_images_0_people m_images_0_said m_images_0_undos m_images_0_heard m_images_0_ending m_images_0_meaning m_images_0_cost m_images_0_alikeTo m_images_0_kind m_images_0_want m_images_0_saidAhead m_images_0_heardWord m_images_0_heardAnswer m_images_1_words m_images_1_people m_images_1_said m_images_1_undos m_images_1_heard m_images_1_ending m_images_1_meaning m_images_1_cost m_images_1_alikeTo m_images_1_kind m_images_1_want m_images_1_saidAhead m_images_1_heardWord m_images_1_heardAnswer m_text_length m_text_items m_text_place m_text_start m_text_token m_text_number m_text_bytes m_duel_words m_duel_saidAtFirst m_duel_asked m_duel_longest m_duel_shortest m_duel_chimesOfFirst m_duel_chimesOfSecond m_duel_lasts m_cover_sayable m_cover_price m_cover_covered m_cover_spent m_clashes m_tally m_sayableByPair m_chosenPairs n_thrown n_size n_at n_start n_token n_value n_faultAt n_allowed n_firstPair n_secondPair n_above n_below n_refused n_tongue n_fresh n_kept n_isKept n_text n_said n_talk hR x1 x2
  obtain ⟨hT, hX, hF, hA, hI, hC⟩ := hR
  have hT0 := hT
  obtain ⟨w, p, u, h, en, mn, cn, kn, wn, ⟨hw, hp, hu8, hh6⟩, ⟨rfl, rfl, rfl, rfl⟩, hrE, hrP, hr2, hco, hE, hM, hP, hs, hir, hh, hu, hsd⟩ := hT
  have full : h = 6 → ∀ y1 y2, fX10_hear_b28 N m_bads m_nos m_fulls (nI h) m_now_heardWord m_now_heardAnswer y1 y2 = some (-4, m_bads, m_nos, m_fulls + 1, nI h, m_now_heardWord, m_now_heardAnswer) ∧ fX11_hear_b31 N 0 n_refused n_tongue y1 y2 = some (-4, 0, upd n_refused 2 (n_refused 2 + 1), n_tongue) := by
    intro h6 y1 y2
    subst h6
    constructor
    · unfold fX10_hear_b28
      rw [if_neg (by decide), s_refF, gm_bind_s]
    · unfold fX11_hear_b31
      rw [ck3 (by decide), cl3, hr2.2.1, if_pos (by decide), s_full, gm_bind_s]
  have room : h < 6 → ∀ y1 y2, fX10_hear_b28 N m_bads m_nos m_fulls (nI h) m_now_heardWord m_now_heardAnswer y1 y2 = some (nI (h + 1), m_bads, m_nos, m_fulls, nI (h + 1), upd m_now_heardWord h y1, upd m_now_heardAnswer h y2) ∧ fX11_hear_b31 N 0 n_refused n_tongue y1 y2 = some (nI (h + 1), 0, n_refused, upd (upd (upd n_tongue (53 + 2 * h) y1) (53 + 2 * h + 1) y2) 3 (nI (h + 1))) := by
    intro h6 y1 y2
    constructor
    · unfold fX10_hear_b28
      rw [if_pos (show nI h < 6 from nI_lt (b := 6) h6 (by decide)), s_addHeard h6, gm_bind_s]
    · unfold fX11_hear_b31
      rw [ck3 (by decide), cl3, hr2.2.1, if_neg (show ¬ nI h = 6 from fun q => by have := (nI_eq (a := h) (b := 6) (by omega) (by decide)).mp q; omega)]
      simp (disch := omega) only [ck3, ix53, nI_1, gm_chk_n, cl_n, upd_n, upd_s, hr2.2.1]
  have step : ∀ a, a < w → ∀ y2, (y2 = -1 ∨ ∃ y, y < w ∧ y2 = nI y) → h < 6 → RT (nI w) (nI p) m_now_said (nI u) (nI (h + 1)) m_now_ending m_now_meaning m_now_cost m_now_alikeTo m_now_kind m_now_want m_now_saidAhead (upd m_now_heardWord h (nI a)) (upd m_now_heardAnswer h y2) (upd (upd (upd n_tongue (53 + 2 * h) (nI a)) (53 + 2 * h + 1) y2) 3 (nI (h + 1))) := by
    intro a ha y2 hy2 h6
    have old : ∀ k, k ≠ 3 → (k < 53 + 2 * h ∨ 53 + 2 * h + 1 < k) → (upd (upd (upd n_tongue (53 + 2 * h) (nI a)) (53 + 2 * h + 1) y2) 3 (nI (h + 1))) k = n_tongue k := fun k k0 k5 => by rw [upd_n k0, upd_n (by omega), upd_n (by omega)]
    refine ⟨w, p, u, h + 1, en, mn, cn, kn, wn, ⟨hw, hp, hu8, by omega⟩, ⟨rfl, rfl, rfl, rfl⟩, ⟨?_, fun j hj => ⟨?_, ?_⟩, fun z hz => ?_⟩, ⟨?_, fun j hj => ⟨?_, ?_⟩⟩, ⟨?_, upd_s, ?_⟩, fun j hj => ⟨?_, (hco j hj).2⟩, hE, hM, hP, hs, hir, fun j hj => ?_, fun j hj => ⟨?_, (hu j hj).2⟩, hsd⟩
    · rw [old 0 (by omega) (by omega)]; exact hrE.1
    · rw [old _ (by omega) (by omega)]; exact (hrE.2.1 j hj).1
    · rw [old _ (by omega) (by omega)]; exact (hrE.2.1 j hj).2
    · rw [old _ (by omega) (by omega)]; exact hrE.2.2 z hz
    · rw [old 1 (by omega) (by omega)]; exact hrP.1
    · rw [old _ (by omega) (by omega)]; exact (hrP.2 j hj).1
    · rw [old _ (by omega) (by omega)]; exact (hrP.2 j hj).2
    · rw [old 2 (by omega) (by omega)]; exact hr2.1
    · rw [old 4 (by omega) (by omega)]; exact hr2.2.2
    · rw [old _ (by omega) (by omega)]; exact (hco j hj).1
    · by_cases hjh : j = h
      · subst hjh
        exact ⟨by rw [upd_n (by omega), upd_n (by omega), upd_s, upd_s], by rw [upd_n (by omega), upd_s, upd_s], ⟨a, ha, upd_s⟩, by rw [upd_s]; exact hy2⟩
      · have := hh j (by omega)
        exact ⟨by rw [old _ (by omega) (by omega), upd_n hjh]; exact this.1, by rw [old _ (by omega) (by omega), upd_n hjh]; exact this.2.1, by rw [upd_n hjh]; exact this.2.2.1, by rw [upd_n hjh]; exact this.2.2.2⟩
    · rw [old _ (by omega) (by omega)]; exact (hu j hj).1
  cases hi : inr x1 w with
  | false =>
    have h1 : fX10_hear N m_bads m_nos m_fulls (nI w) (nI h) m_now_heardWord m_now_heardAnswer x1 x2 = some (-2, m_bads + 1, m_nos, m_fulls, nI h, m_now_heardWord, m_now_heardAnswer) := by
      unfold fX10_hear fX10_hear_b21
      rw [s_isWord x1 (by omega), gm_bind_s, hi, if_pos (by decide), s_refB, gm_bind_s]
    have h2 : fX11_hear N n_thrown n_refused n_tongue x1 x2 = some (-2, 0, upd n_refused 0 (n_refused 0 + 1), n_tongue) := by
      unfold fX11_hear fX11_hear_b26
      rw [s_noWord x1 hrE.1 (by omega), gm_bind_s, hi, if_neg (by decide), s_bad, gm_bind_s]
    exact ⟨_, _, h1, h2, rfl, hT0, hX, RFb hF, hA, hI, hC⟩
  | true =>
    obtain ⟨a, ha, rfl⟩ := inr_t hi (by omega)
    have go : (x2 = -1 ∨ ∃ y, y < w ∧ x2 = nI y) → fX10_hear N m_bads m_nos m_fulls (nI w) (nI h) m_now_heardWord m_now_heardAnswer (nI a) x2 = fX10_hear_b28 N m_bads m_nos m_fulls (nI h) m_now_heardWord m_now_heardAnswer (nI a) x2 ∧ fX11_hear N n_thrown n_refused n_tongue (nI a) x2 = fX11_hear_b31 N 0 n_refused n_tongue (nI a) x2 := by
      intro hy
      have hi2 : ∀ y, y < w → inr (nI y) w = true := fun y hy => by rw [inr_n (by omega)]; exact decide_eq_true hy
      constructor
      · unfold fX10_hear
        rw [s_isWord (nI a) (by omega), gm_bind_s, hi, if_neg (by decide)]
        by_cases c : x2 = -1
        · rw [if_pos c]
        · rw [if_neg c]
          rcases hy with e | ⟨y, hy, rfl⟩
          · exact absurd e c
          · rw [s_isWord (nI y) (by omega), gm_bind_s, hi2 y hy, if_neg (by decide)]
      · unfold fX11_hear
        rw [s_noWord (nI a) hrE.1 (by omega), gm_bind_s, hi, if_pos (by decide)]
        by_cases c : x2 = -1
        · rw [if_pos c]
        · rw [if_neg c]
          rcases hy with e | ⟨y, hy, rfl⟩
          · exact absurd e c
          · rw [s_noWord (nI y) hrE.1 (by omega), gm_bind_s, hi2 y hy, if_pos (by decide)]
    by_cases hy : x2 = -1 ∨ ∃ y, y < w ∧ x2 = nI y
    · obtain ⟨g1, g2⟩ := go hy
      rcases Nat.lt_or_ge h 6 with h6 | h6
      · obtain ⟨q1, q2⟩ := room h6 (nI a) x2
        exact ⟨_, _, g1.trans q1, g2.trans q2, rfl, step a ha x2 hy h6, hX, hF, hA, hI, hC⟩
      · obtain ⟨q1, q2⟩ := full (by omega) (nI a) x2
        exact ⟨_, _, g1.trans q1, g2.trans q2, rfl, hT0, hX, RFf hF, hA, hI, hC⟩
    · have c : ¬ x2 = -1 := fun e => hy (Or.inl e)
      have hi2 : inr x2 w = false := by
        cases hq : inr x2 w with
        | false => rfl
        | true =>
          obtain ⟨y, hy2, e⟩ := inr_t hq (by omega)
          exact absurd (Or.inr ⟨y, hy2, e⟩) hy
      have h1 : fX10_hear N m_bads m_nos m_fulls (nI w) (nI h) m_now_heardWord m_now_heardAnswer (nI a) x2 = some (-2, m_bads + 1, m_nos, m_fulls, nI h, m_now_heardWord, m_now_heardAnswer) := by
        unfold fX10_hear fX10_hear_b21
        rw [s_isWord (nI a) (by omega), gm_bind_s, hi, if_neg (by decide), if_neg c, s_isWord x2 (by omega), gm_bind_s, hi2, if_pos (by decide), s_refB, gm_bind_s]
      have h2 : fX11_hear N n_thrown n_refused n_tongue (nI a) x2 = some (-2, 0, upd n_refused 0 (n_refused 0 + 1), n_tongue) := by
        unfold fX11_hear fX11_hear_b26
        rw [s_noWord (nI a) hrE.1 (by omega), gm_bind_s, hi, if_pos (by decide), if_neg c, s_noWord x2 hrE.1 (by omega), gm_bind_s, hi2, if_neg (by decide), s_bad, gm_bind_s]
      exact ⟨_, _, h1, h2, rfl, hT0, hX, RFb hF, hA, hI, hC⟩
/-! ===== a pair made alike, or not ===== -/
/-- one bit set or taken away -/
def pb (x : Int32) (b : Nat) (v : Bool) : Int32 := if v then x ||| ((1 : Int32) <<< (nI b &&& 31)) else x &&& (((1 : Int32) <<< (nI b &&& 31)) ^^^ (-1))
theorem pb_bt (x : Int32) {b : Nat} (hb : b < 32) (v : Bool) {i : Nat} (hi : i < 32) : bt (pb x b v) i = if i = b then v else bt x i := by
  unfold pb
  cases v with
  | true =>
    rw [if_pos rfl, b_or, b_one b hb hi]
    by_cases h : i = b
    · simp [h]
    · simp [h]
  | false =>
    rw [if_neg (by decide), b_and, b_not _ hi, b_one b hb hi]
    by_cases h : i = b
    · simp [h]
    · simp [h]
def setA (al : Nat → Int32) (a b : Nat) (v : Bool) : Nat → Int32 := upd (upd al a (pb (al a) b v)) b (pb (al b) a v)
def setR (f : Nat → Int32) (a b : Nat) (v : Bool) : Nat → Int32 := upd (upd f (45 + a) (pb (f (45 + a)) b v)) (45 + b) (pb (f (45 + b)) a v)
theorem s_areAlike {N a b : Nat} {al : Nat → Int32} (ha : a < 8) (hb : b < 8) : fX9_areAlike N al (nI a) (nI b) = some (bi (bt (al a) b)) := by
  unfold fX9_areAlike
  rw [gm_chk_n ha (by decide), cl_n (by omega), b_get _ b (by omega)]
  cases bt (al a) b <;> rfl
theorem s_setAlike0 {N a b : Nat} {al : Nat → Int32} (ha : a < 8) (hb : b < 8) (hab : ¬ a = b) : fX9_setAlike N al (nI a) (nI b) 0 = some (setA al a b false) := by
  unfold fX9_setAlike
  rw [if_pos rfl]
  simp (disch := omega) only [gm_chk_n, cl_n, upd_n]
  rfl
theorem s_setAlike1 {N a b : Nat} {al : Nat → Int32} (ha : a < 8) (hb : b < 8) (hab : ¬ a = b) : fX9_setAlike N al (nI a) (nI b) 1 = some (setA al a b true) := by
  unfold fX9_setAlike
  rw [if_neg (by decide)]
  simp (disch := omega) only [gm_chk_n, cl_n, upd_n]
  rfl
theorem pb_or (x : Int32) {b : Nat} (hb : b < 32) (v : Bool) : (x &&& (((1 : Int32) <<< (nI b &&& 31)) ^^^ (-1))) ||| (bi v <<< (nI b &&& 31)) = pb x b v := by
  apply b_ext
  intro i hi
  rw [b_or, b_and, b_not _ hi, b_one b hb hi, pb_bt x hb v hi]
  cases v with
  | true =>
    rw [show bi true = (1 : Int32) from rfl, b_one b hb hi]
    by_cases h : i = b
    · simp [h]
    · simp [h]
  | false =>
    rw [show bi false = (0 : Int32) from rfl, b_shl b hb 0 hi, b_0]
    by_cases h : i = b
    · simp [h]
    · simp [h]
theorem s_MsetAlike {N a b : Nat} {f : Nat → Int32} (ha : a < 8) (hb : b < 8) (hab : ¬ a = b) (k : Int32) (v : Bool) (hk : k = bi v) : fX11_setAlike N f (nI a) (nI b) k = some (setR f a b v) := by
  unfold fX11_setAlike
  simp (disch := omega) only [ix45, gm_chk_n, cl_n, upd_n, hk]
  rw [pb_or _ (by omega), pb_or _ (by omega)]
  rfl
theorem setA_bt {al : Nat → Int32} {a b : Nat} (ha : a < 8) (hb : b < 8) (hab : ¬ a = b) (v : Bool) (c : Nat) {i : Nat} (hi : i < 32) : bt (setA al a b v c) i = if (c = a ∧ i = b) ∨ (c = b ∧ i = a) then v else bt (al c) i := by
  unfold setA
  by_cases h1 : c = b
  · subst h1
    rw [upd_s, pb_bt _ (by omega) v hi]
    by_cases h2 : i = a
    · rw [if_pos h2, if_pos (Or.inr ⟨rfl, h2⟩)]
    · rw [if_neg h2, if_neg (by rintro (⟨q, -⟩ | ⟨-, q⟩); exact hab q.symm; exact h2 q)]
  · rw [upd_n h1]
    by_cases h2 : c = a
    · subst h2
      rw [upd_s, pb_bt _ (by omega) v hi]
      by_cases h3 : i = b
      · rw [if_pos h3, if_pos (Or.inl ⟨rfl, h3⟩)]
      · rw [if_neg h3, if_neg (by rintro (⟨-, q⟩ | ⟨q, -⟩); exact h3 q; exact h1 q)]
    · rw [upd_n h2, if_neg (by rintro (⟨q, -⟩ | ⟨q, -⟩); exact h2 q; exact h1 q)]
theorem RT_al {words people said undos heard : Int32} {e m c al k wt sa hw ha f : Nat → Int32} (hT : RT words people said undos heard e m c al k wt sa hw ha f) {a b : Nat} (ha8 : a < 8) (hb8 : b < 8) (hab : ¬ a = b) (v : Bool) : RT words people said undos heard e m c (setA al a b v) k wt sa hw ha (setR f a b v) := by
  obtain ⟨w, p, u, h, en, mn, cn, kn, wn, hb, hq, hrE, hrP, hr2, hco, hE, hM, hP, hs, hir, hh, hu, hsd⟩ := hT
  have old : ∀ k, (k < 45 ∨ 53 ≤ k) → setR f a b v k = f k := fun k hk => by
    unfold setR
    rw [upd_n (by omega), upd_n (by omega)]
  refine ⟨w, p, u, h, en, mn, cn, kn, wn, hb, hq, ⟨?_, fun j hj => ⟨?_, ?_⟩, fun z hz => ?_⟩, ⟨?_, fun j hj => ⟨?_, ?_⟩⟩, ⟨?_, ?_, ?_⟩, fun j hj => ⟨?_, (hco j hj).2⟩, hE, hM, hP, fun x y hx hy => ?_, fun x hx => ⟨?_, fun i hi => ?_⟩, fun j hj => ⟨?_, ?_, (hh j hj).2.2⟩, fun j hj => ⟨?_, (hu j hj).2⟩, hsd⟩
  · rw [old 0 (by omega)]; exact hrE.1
  · rw [old _ (by omega)]; exact (hrE.2.1 j hj).1
  · rw [old _ (by omega)]; exact (hrE.2.1 j hj).2
  · unfold setR setA
    rw [hrE.2.2 a ha8, hrE.2.2 b hb8]
    by_cases h1 : z = b
    · subst h1; rw [upd_s, upd_s]
    · rw [upd_n (by omega), upd_n h1]
      by_cases h2 : z = a
      · subst h2; rw [upd_s, upd_s]
      · rw [upd_n (by omega), upd_n h2]; exact hrE.2.2 z hz
  · rw [old 1 (by omega)]; exact hrP.1
  · rw [old _ (by omega)]; exact (hrP.2 j hj).1
  · rw [old _ (by omega)]; exact (hrP.2 j hj).2
  · rw [old 2 (by omega)]; exact hr2.1
  · rw [old 3 (by omega)]; exact hr2.2.1
  · rw [old 4 (by omega)]; exact hr2.2.2
  · rw [old _ (by omega)]; exact (hco j hj).1
  · rw [setA_bt ha8 hb8 hab v x (by omega), setA_bt ha8 hb8 hab v y (by omega)]
    by_cases h1 : (x = a ∧ y = b) ∨ (x = b ∧ y = a)
    · rw [if_pos h1, if_pos (by omega)]
    · rw [if_neg h1, if_neg (by omega)]; exact hs x y hx hy
  · rw [setA_bt ha8 hb8 hab v x (by omega), if_neg (by omega)]; exact (hir x hx).1
  · rcases Nat.lt_or_ge i 32 with q | q
    · rw [setA_bt ha8 hb8 hab v x q, if_neg (by omega)]; exact (hir x hx).2 i hi
    · exact b_big q
  · rw [old _ (by omega)]; exact (hh j hj).1
  · rw [old _ (by omega)]; exact (hh j hj).2.1
  · rw [old _ (by omega)]; exact (hu j hj).1
set_option maxHeartbeats 4000000 in
theorem sim_alike {N : Nat} (hN : 3000 ≤ N) : S_alike N gm_R := by
  intro m_imagesKept m_bads m_nos m_fulls m_above m_below m_now_words m_now_people m_now_said m_now_undos m_now_heard m_now_ending m_now_meaning m_now_cost m_now_alikeTo m_now_kind m_now_want m_now_saidAhead m_now_heardWord m_now_heardAnswer m_draft_words m_draft_people m_draft_said m_draft_undos m_draft_heard m_draft_ending m_draft_meaning m_draft_cost m_draft_alikeTo m_draft_kind m_draft_want m_draft_saidAhead m_draft_heardWord m_draft_heardAnswer m_images_0_words m_images_0_people m_images_0_said m_images_0_undos m_images_0_heard m_images_0_ending m_images_0_meaning m_images_0_cost m_images_0_alikeTo m_images_0_kind m_images_0_want m_images_0_saidAhead m_images_0_heardWord m_images_0_heardAnswer m_images_1_words m_images_1_people m_images_1_said m_images_1_undos m_images_1_heard m_images_1_ending m_images_1_meaning m_images_1_cost m_images_1_alikeTo m_images_1_kind m_images_1_want m_images_1_saidAhead m_images_1_heardWord m_images_1_heardAnswer m_text_length m_text_items m_text_place m_text_start m_text_token m_text_number m_text_bytes m_duel_words m_duel_saidAtFirst m_duel_asked m_duel_longest m_duel_shortest m_duel_chimesOfFirst m_duel_chimesOfSecond m_duel_lasts m_cover_sayable m_cover_price m_cover_covered m_cover_spent m_clashes m_tally m_sayableByPair m_chosenPairs n_thrown n_size n_at n_start n_token n_value n_faultAt n_allowed n_firstPair n_secondPair n_above n_below n_refused n_tongue n_fresh n_kept n_isKept n_text n_said n_talk hR x1 x2 x3
  obtain ⟨hT, hX, hF, hA, hI, hC⟩ := hR
  have hT0 := hT
  obtain ⟨w, p, u, h, en, mn, cn, kn, wn, ⟨hw, hp, hu8, hh6⟩, ⟨rfl, rfl, rfl, rfl⟩, hrE, hrP, hr2, hco, hE, hM, hP, hs, hir, hh, hu, hsd⟩ := hT
  cases hi : inr x1 8 with
  | false =>
    have h1 : fX10_alike N m_bads m_nos m_fulls m_now_alikeTo x1 x2 x3 = some (-2, m_bads + 1, m_nos, m_fulls, m_now_alikeTo) := by
      unfold fX10_alike fX10_alike_b31
      rw [s_fl x1 8 8 rfl (by decide), gm_bind_s, hi, if_pos (by decide), s_refB, gm_bind_s]
    have h2 : fX11_alike N n_thrown n_refused n_tongue x1 x2 x3 = some (-2, 0, upd n_refused 0 (n_refused 0 + 1), n_tongue) := by
      unfold fX11_alike fX11_alike_b34
      rw [s_isEnding, gm_bind_s, hi, if_pos (by decide), s_bad, gm_bind_s]
    exact ⟨_, _, h1, h2, rfl, hT0, hX, RFb hF, hA, hI, hC⟩
  | true =>
    obtain ⟨a, ha, rfl⟩ := inr_t hi (by decide)
    cases hi2 : inr x2 8 with
    | false =>
      have h1 : fX10_alike N m_bads m_nos m_fulls m_now_alikeTo (nI a) x2 x3 = some (-2, m_bads + 1, m_nos, m_fulls, m_now_alikeTo) := by
        unfold fX10_alike fX10_alike_b31
        rw [s_fl (nI a) 8 8 rfl (by decide), gm_bind_s, hi, if_neg (by decide), s_fl x2 8 8 rfl (by decide), gm_bind_s, hi2, if_pos (by decide), s_refB, gm_bind_s]
      have h2 : fX11_alike N n_thrown n_refused n_tongue (nI a) x2 x3 = some (-2, 0, upd n_refused 0 (n_refused 0 + 1), n_tongue) := by
        unfold fX11_alike fX11_alike_b34
        rw [s_isEnding, gm_bind_s, hi, if_neg (by decide), s_isEnding, gm_bind_s, hi2, if_pos (by decide), s_bad, gm_bind_s]
      exact ⟨_, _, h1, h2, rfl, hT0, hX, RFb hF, hA, hI, hC⟩
    | true =>
      obtain ⟨b, hb, rfl⟩ := inr_t hi2 (by decide)
      by_cases hab : a = b
      · subst hab
        have h1 : fX10_alike N m_bads m_nos m_fulls m_now_alikeTo (nI a) (nI a) x3 = some (-2, m_bads + 1, m_nos, m_fulls, m_now_alikeTo) := by
          unfold fX10_alike fX10_alike_b31
          rw [s_fl (nI a) 8 8 rfl (by decide), gm_bind_s, hi, if_neg (by decide), gm_bind_s, if_neg (by decide), if_pos rfl, s_refB, gm_bind_s]
        have h2 : fX11_alike N n_thrown n_refused n_tongue (nI a) (nI a) x3 = some (-2, 0, upd n_refused 0 (n_refused 0 + 1), n_tongue) := by
          unfold fX11_alike fX11_alike_b34
          rw [s_isEnding, gm_bind_s, hi, if_neg (by decide), gm_bind_s, if_neg (by decide), if_pos rfl, s_bad, gm_bind_s]
        exact ⟨_, _, h1, h2, rfl, hT0, hX, RFb hF, hA, hI, hC⟩
      · cases hi3 : inr x3 2 with
        | false =>
          have h1 : fX10_alike N m_bads m_nos m_fulls m_now_alikeTo (nI a) (nI b) x3 = some (-2, m_bads + 1, m_nos, m_fulls, m_now_alikeTo) := by
            unfold fX10_alike fX10_alike_b31
            rw [s_fl (nI a) 8 8 rfl (by decide), gm_bind_s, hi, if_neg (by decide), s_fl (nI b) 8 8 rfl (by decide), gm_bind_s, hi2, if_neg (by decide), if_neg (show ¬ nI a = nI b from fun q => hab ((nI_eq (by omega) (by omega)).mp q)), s_fl x3 2 2 rfl (by decide), gm_bind_s, hi3, if_pos (by decide), s_refB, gm_bind_s]
          have h2 : fX11_alike N n_thrown n_refused n_tongue (nI a) (nI b) x3 = some (-2, 0, upd n_refused 0 (n_refused 0 + 1), n_tongue) := by
            unfold fX11_alike fX11_alike_b34
            rw [s_isEnding, gm_bind_s, hi, if_neg (by decide), s_isEnding, gm_bind_s, hi2, if_neg (by decide), if_neg (show ¬ nI a = nI b from fun q => hab ((nI_eq (by omega) (by omega)).mp q)), s_in (B := 2) x3 1 (by decide), gm_bind_s, hi3, if_pos (by decide), s_bad, gm_bind_s]
          exact ⟨_, _, h1, h2, rfl, hT0, hX, RFb hF, hA, hI, hC⟩
        | true =>
          obtain ⟨k, hk, rfl⟩ := inr_t hi3 (by decide)
          have h1 : fX10_alike N m_bads m_nos m_fulls m_now_alikeTo (nI a) (nI b) (nI k) = some (bi (bt (m_now_alikeTo a) b), m_bads, m_nos, m_fulls, setA m_now_alikeTo a b (decide (k = 1))) := by
            unfold fX10_alike
            rw [s_fl (nI a) 8 8 rfl (by decide), gm_bind_s, hi, if_neg (by decide), s_fl (nI b) 8 8 rfl (by decide), gm_bind_s, hi2, if_neg (by decide), if_neg (show ¬ nI a = nI b from fun q => hab ((nI_eq (by omega) (by omega)).mp q)), s_fl (nI k) 2 2 rfl (by decide), gm_bind_s, hi3, if_neg (by decide), s_areAlike ha hb, gm_bind_s]
            unfold fX10_alike_b65
            rcases (show k = 0 ∨ k = 1 by omega) with rfl | rfl
            · rw [if_neg (by decide), s_setAlike0 ha hb hab, gm_bind_s]
              cases bt (m_now_alikeTo a) b <;> rfl
            · rw [if_pos (by decide), s_setAlike1 ha hb hab, gm_bind_s]
              cases bt (m_now_alikeTo a) b <;> rfl
          have h2 : fX11_alike N n_thrown n_refused n_tongue (nI a) (nI b) (nI k) = some (bi (bt (m_now_alikeTo a) b), 0, n_refused, setR n_tongue a b (decide (k = 1))) := by
            unfold fX11_alike
            rw [s_isEnding, gm_bind_s, hi, if_neg (by decide), s_isEnding, gm_bind_s, hi2, if_neg (by decide), if_neg (show ¬ nI a = nI b from fun q => hab ((nI_eq (by omega) (by omega)).mp q)), s_in (B := 2) (nI k) 1 (by decide), gm_bind_s, hi3, if_neg (by decide), ix45, gm_chk_n (by omega) (by decide), gm_let_s, cl_n (by omega), hrE.2.2 a ha, b_get _ b (by omega)]
            rcases (show k = 0 ∨ k = 1 by omega) with rfl | rfl
            · rw [s_MsetAlike ha hb hab (nI 0) false rfl, gm_bind_s]; rfl
            · rw [s_MsetAlike ha hb hab (nI 1) true rfl, gm_bind_s]; rfl
          exact ⟨_, _, h1, h2, rfl, RT_al hT0 ha hb hab (decide (k = 1)), hX, hF, hA, hI, hC⟩
