/-! ===== covers ===== -/
def ob (g : Nat → Int32) (s : Int32) : Nat → Int32
  | 0 => 0
  | n + 1 => ob g s n ||| (if bt s n then g n else 0)
def sb (g : Nat → Int32) (s : Int32) : Nat → Int32
  | 0 => 0
  | n + 1 => sb g s n + (if bt s n then g n else 0)
def tz (s : Nat) : Nat := ((List.range 10).find? (fun i => s.testBit i)).getD 0
theorem cv_d : ∀ s, s < 1024 → 0 < s → (s &&& (s - 1)) < s ∧ tz s < 10 ∧ nI s &&& (nI s - 1) = nI (s &&& (s - 1)) ∧ fJ6_numberOfTrailingZeros_0f7a4 0 (nI s) = some (nI (tz s)) ∧ bt (nI s) (tz s) = true ∧ bt (nI (s &&& (s - 1))) (tz s) = false ∧ ∀ i, i < 10 → bt (nI s) i = (bt (nI (s &&& (s - 1))) i || decide (i = tz s)) := by decide +kernel
theorem ntz_N (N : Nat) (x : Int32) : fJ6_numberOfTrailingZeros_0f7a4 N x = fJ6_numberOfTrailingZeros_0f7a4 0 x := rfl
theorem ob_cong {g g' : Nat → Int32} {s : Int32} : ∀ {n : Nat}, (∀ i, i < n → g i = g' i) → ob g s n = ob g' s n
  | 0, _ => rfl
  | n + 1, h => by rw [ob, ob, ob_cong (n := n) (fun i hi => h i (by omega)), h n (by omega)]
theorem sb_cong {g g' : Nat → Int32} {s : Int32} : ∀ {n : Nat}, (∀ i, i < n → g i = g' i) → sb g s n = sb g' s n
  | 0, _ => rfl
  | n + 1, h => by rw [sb, sb, sb_cong (n := n) (fun i hi => h i (by omega)), h n (by omega)]
theorem ob_0 (g : Nat → Int32) : ∀ n, ob g (nI 0) n = 0
  | 0 => rfl
  | n + 1 => by rw [ob, ob_0 g n, show nI 0 = (0 : Int32) from rfl, b_0, if_neg (by decide), or_0]
theorem sb_0 (g : Nat → Int32) : ∀ n, sb g (nI 0) n = 0
  | 0 => rfl
  | n + 1 => by rw [sb, sb_0 g n, show nI 0 = (0 : Int32) from rfl, b_0, if_neg (by decide), Int32.add_zero]
theorem ob_step {g : Nat → Int32} {s l : Int32} {t : Nat} (hl : bt l t = false) : ∀ n, (∀ i, i < n → bt s i = (bt l i || decide (i = t))) → ob g s n = ob g l n ||| (if t < n then g t else 0)
  | 0, _ => by rw [if_neg (Nat.not_lt_zero _), or_0]; rfl
  | n + 1, h => by
    rw [ob, ob, ob_step hl n (fun i hi => h i (by omega)), h n (by omega)]
    rcases Nat.lt_trichotomy t n with q | q | q
    · rw [decide_eq_false (show ¬ n = t by omega), Bool.or_false, if_pos q, if_pos (show t < n + 1 by omega), Int32.or_assoc, Int32.or_assoc, Int32.or_comm (g t)]
    · subst q
      rw [hl, if_neg (Nat.lt_irrefl _), if_pos (Nat.lt_succ_self _), decide_eq_true rfl, or_0, Bool.false_or, if_pos rfl, if_neg (by decide), or_0]
    · rw [decide_eq_false (show ¬ n = t by omega), Bool.or_false, if_neg (show ¬ t < n by omega), if_neg (show ¬ t < n + 1 by omega), or_0, or_0]
theorem sb_step {g : Nat → Int32} {s l : Int32} {t : Nat} (hl : bt l t = false) : ∀ n, (∀ i, i < n → bt s i = (bt l i || decide (i = t))) → sb g s n = sb g l n + (if t < n then g t else 0)
  | 0, _ => by rw [if_neg (Nat.not_lt_zero _), Int32.add_zero]; rfl
  | n + 1, h => by
    rw [sb, sb, sb_step hl n (fun i hi => h i (by omega)), h n (by omega)]
    rcases Nat.lt_trichotomy t n with q | q | q
    · rw [decide_eq_false (show ¬ n = t by omega), Bool.or_false, if_pos q, if_pos (show t < n + 1 by omega), Int32.add_assoc, Int32.add_assoc, Int32.add_comm (g t)]
    · subst q
      rw [hl, if_neg (Nat.lt_irrefl _), if_pos (Nat.lt_succ_self _), decide_eq_true rfl, Int32.add_zero]
      simp
    · rw [decide_eq_false (show ¬ n = t by omega), Bool.or_false, if_neg (show ¬ t < n by omega), if_neg (show ¬ t < n + 1 by omega), Int32.add_zero, Int32.add_zero]
/-- the best set so far -/
def cb (ok : Nat → Bool) (c : Nat → Int32) : Nat → Int32
  | 0 => -1
  | s + 1 => if ok s then (if cb ok c s = -1 then nI s else if c (cb ok c s).toNatClampNeg ≤ c s then cb ok c s else nI s) else cb ok c s
theorem cb_p (ok : Nat → Bool) (c : Nat → Int32) : ∀ s, s ≤ 1024 → cb ok c s = -1 ∨ ∃ b, b < s ∧ cb ok c s = nI b
  | 0, _ => Or.inl rfl
  | s + 1, h => by
    rw [cb]
    have ih := cb_p ok c s (by omega)
    split
    · split
      · exact Or.inr ⟨s, by omega, rfl⟩
      · rename_i q
        split
        · rcases ih with ih | ⟨b, hb, ih⟩
          · exact absurd ih q
          · exact Or.inr ⟨b, by omega, ih⟩
        · exact Or.inr ⟨s, by omega, rfl⟩
    · rcases ih with ih | ⟨b, hb, ih⟩
      · exact Or.inl ih
      · exact Or.inr ⟨b, by omega, ih⟩
def okc (x : Int32) (g : Nat → Int32) (w s : Nat) : Bool := decide (x &&& (ob g (nI s) w ^^^ (-1)) = 0)
set_option maxHeartbeats 2000000 in
theorem s_cheap {N w : Nat} {x : Int32} {sy pr cv sp g c : Nat → Int32} (hN : 3000 ≤ N) (hw : w ≤ 10) (hg : ∀ i, i < w → sy i = g i) (hc : ∀ i, i < w → pr i = c i) (h0 : cv 0 = 0) (h1 : sp 0 = 0) : ∃ (cv' sp' : Nat → Int32), fX1_cheapest N sy pr cv sp (nI w) x = some (cb (okc x g w) (fun s => sb c (nI s) w) (2 ^ w), cv', sp') ∧ cv' 0 = 0 ∧ sp' 0 = 0 := by
  obtain ⟨p1, p2⟩ := p2w w (by omega)
  unfold fX1_cheapest fX1_cheapest_b16
  rw [p1, if_neg (fun q => by
    have q2 : nI 1024 < nI (2 ^ w) := q
    exact absurd q2 (fun q3 => by
      have := nI_le (a := 2 ^ w) (b := 1024) p2 (by decide)
      exact Int32.not_le.mpr q3 this)), gm_let_s]
  refine fx4 (fun d (a : Nat → Int32) (b : Nat → Int32) (e : Int32) (f : Int32) => ∃ s, s + d = 2 ^ w ∧ f = nI s ∧ e = cb (okc x g w) (fun s => sb c (nI s) w) s ∧ a 0 = 0 ∧ b 0 = 0 ∧ ∀ i, i < s → a i = ob g (nI i) w ∧ b i = sb c (nI i) w) (fun o => ∃ (cv' sp' : Nat → Int32), o = some (cb (okc x g w) (fun s => sb c (nI s) w) (2 ^ w), cv', sp') ∧ cv' 0 = 0 ∧ sp' 0 = 0) ?_ N (2 ^ w) _ _ _ _ (by omega) ⟨0, by omega, rfl, rfl, h0, h1, fun i hi => absurd hi (Nat.not_lt_zero _)⟩
  intro r d a b e f hI hr
  obtain ⟨s, hs, rfl, rfl, ha, hb, hp⟩ := hI
  unfold fX1_cheapest_b16_body
  rcases Nat.eq_zero_or_pos d with hd | hd
  · rw [hd_end (by omega) (by omega), show s = 2 ^ w by omega]
    exact ⟨_, _, rfl, ha, hb⟩
  · rw [hd_go (by omega) (by omega)]
    have key : ∀ (a' b' : Nat → Int32), a' 0 = 0 → b' 0 = 0 → (∀ i, i < s + 1 → a' i = ob g (nI i) w ∧ b' i = sb c (nI i) w) → (∃ (cv' sp' : Nat → Int32), fX1_cheapest_b88 N r sy pr a' b' x (cb (okc x g w) (fun s => sb c (nI s) w) s) (nI (2 ^ w)) (nI s) = some (cb (okc x g w) (fun s => sb c (nI s) w) (2 ^ w), cv', sp') ∧ cv' 0 = 0 ∧ sp' 0 = 0) := by
      intro a' b' ha' hb' hp'
      have hgo : ∀ z, z = cb (okc x g w) (fun s => sb c (nI s) w) (s + 1) → (∃ (cv' sp' : Nat → Int32), r a' b' z (nI s + 1) = some (cb (okc x g w) (fun s => sb c (nI s) w) (2 ^ w), cv', sp') ∧ cv' 0 = 0 ∧ sp' 0 = 0) := fun z hz => hr _ _ _ _ (d - 1) (by omega) ⟨s + 1, by omega, nI_1 s, hz, ha', hb', hp'⟩
      unfold fX1_cheapest_b88 fX1_cheapest_b126 fX1_cheapest_b123
      rw [gm_chk_n (by omega) (by decide), cl_n (by omega), (hp' s (by omega)).1]
      by_cases q : x &&& (ob g (nI s) w ^^^ (-1)) = 0
      · have q' : okc x g w s = true := decide_eq_true q
        rw [if_pos q]
        rcases cb_p (okc x g w) (fun s => sb c (nI s) w) s (by omega) with e1 | ⟨bb, hbb, e1⟩
        · rw [if_pos e1]
          refine hgo _ ?_
          rw [cb, q', if_pos rfl, if_pos e1]
        · rw [if_neg (by rw [e1]; exact nI_nm1 (by omega)), gm_chk_n (by omega) (by decide)]
          simp only [e1]
          rw [gm_chk_n (by omega) (by decide), cl_n (by omega), (hp' s (by omega)).2, (hp' bb (by omega)).2]
          by_cases q2 : sb c (nI bb) w ≤ sb c (nI s) w
          · rw [if_pos q2]
            refine hgo _ ?_
            rw [cb, q', if_pos rfl, e1, if_neg (nI_nm1 (by omega)), cl_n (by omega), if_pos q2]
          · rw [if_neg q2]
            refine hgo _ ?_
            rw [cb, q', if_pos rfl, e1, if_neg (nI_nm1 (by omega)), cl_n (by omega), if_neg q2]
      · have q' : okc x g w s = false := decide_eq_false q
        rw [if_neg q]
        refine hgo _ ?_
        rw [cb, q', if_neg (by decide)]
    rcases Nat.eq_zero_or_pos s with s0 | s0
    · subst s0
      rw [if_pos (by decide)]
      exact key _ _ ha hb (fun i hi => by rw [show i = 0 by omega, ha, hb, ob_0, sb_0]; exact ⟨rfl, rfl⟩)
    · obtain ⟨c1, c2, c3, c4, c5, c6, c7⟩ := cv_d s (by omega) s0
      have ht : tz s < w := Nat.lt_of_not_le (fun q => by
        have := hi_w (show s < 2 ^ w by omega) q (by omega)
        rw [this] at c5
        exact absurd c5 (by decide))
      rw [if_neg (show ¬ nI s ≤ (0 : Int32) from nI_ge (a := 0) (b := s) s0 (by omega)), gm_let_s, ntz_N, c4, gm_bind_s, c3, gm_chk_n (by omega) (by decide), gm_chk_n (by omega) (by decide), gm_chk_n (by omega) (by decide), gm_chk_n (by omega) (by decide), gm_chk_n (by omega) (by decide), gm_chk_n (by omega) (by decide), cl_n (by omega), cl_n (by omega), cl_n (by omega)]
      have e1 := ob_step (g := g) c6 w (fun i hi => c7 i (by omega))
      have e2 := sb_step (g := c) c6 w (fun i hi => c7 i (by omega))
      rw [if_pos ht] at e1 e2
      refine key _ _ ?_ ?_ ?_
      · rw [upd_n (by omega)]; exact ha
      · rw [upd_n (by omega)]; exact hb
      · intro i hi
        by_cases q : i = s
        · subst q
          rw [upd_s, upd_s, (hp _ c1).1, (hp _ c1).2, hg _ ht, hc _ ht, e1, e2]
          exact ⟨rfl, rfl⟩
        · rw [upd_n q, upd_n q]
          exact hp i (by omega)
theorem s_MsaidBy {N w : Nat} {f sy g : Nat → Int32} (hN : 3000 ≤ N) (hw : w ≤ 10) (h0 : f 0 = nI w) (hg : ∀ i, i < w → sy i = g i) (x : Int32) : fX11_saidBy N f sy x = some (ob g x w) := by
  unfold fX11_saidBy fX11_saidBy_b4
  refine lpA w (fun i => ob g x i) _ ?_ ?_ 0 (by omega) (by omega)
  · intro r i hi
    unfold fX11_saidBy_b4_body fX11_saidBy_b33
    rw [ck0 (by decide), cl0, h0, hd_go hi (by omega), s_Mhas x (by omega), gm_bind_s, nI_1]
    show _ = r (ob g x i ||| _) _
    cases q : bt x i
    · rw [if_pos (by decide), gm_let_s]; rfl
    · rw [if_neg (by decide), gm_chk_n (by omega) (by decide), gm_let_s, cl_n (by omega), hg i hi]; rfl
  · intro r
    unfold fX11_saidBy_b4_body
    rw [ck0 (by decide), cl0, h0, hd_end (by omega) (by omega)]
theorem sm_sb {s w : Nat} (hw : w ≤ 10) (hs : s < 2 ^ w) : sm (nI s) 10 = sb (fun _ => 1) (nI s) w := by
  have h1 : ∀ n, n ≤ 10 → sm (nI s) n = sb (fun _ => 1) (nI s) n := by
    intro n
    induction n with
    | zero => intro _; rfl
    | succ n ih => intro hn; rw [sm, sb, ih (by omega), b_get _ n (by omega)]
  have h2 : ∀ d, w + d ≤ 10 → sb (fun _ => 1) (nI s) (w + d) = sb (fun _ => 1) (nI s) w := by
    intro d
    induction d with
    | zero => intro _; rfl
    | succ d ih =>
      intro hd
      rw [show w + (d + 1) = (w + d) + 1 by omega, sb, ih (by omega), hi_w hs (by omega) (by omega)]
      exact Int32.add_zero _
  rw [h1 10 (by omega), show (10 : Nat) = w + (10 - w) by omega, h2 _ (by omega)]
/-- arrays that are filled -/
def fl (a g : Nat → Int32) : Nat → Nat → Int32
  | 0 => a
  | n + 1 => upd (fl a g n) n (g n)
theorem fl_get {a g : Nat → Int32} : ∀ {n j : Nat}, j < n → fl a g n j = g j
  | n + 1, j, h => by
    rw [fl]
    by_cases q : j = n
    · rw [q, upd_s]
    · rw [upd_n q, fl_get (by omega)]
def orp (g : Nat → Int32) : Nat → Int32
  | 0 => 0
  | n + 1 => orp g n ||| g n
def fo2 (a : Nat → Int32) (k : Nat) (g : Nat → Int32) : Nat → Nat → Int32
  | 0 => upd a k 0
  | n + 1 => upd (fo2 a k g n) k (fo2 a k g n k ||| g n)
theorem fo2_k {a g : Nat → Int32} {k : Nat} : ∀ n, fo2 a k g n k = orp g n
  | 0 => upd_s
  | n + 1 => by rw [fo2, upd_s, fo2_k n]; rfl
theorem fo2_n {a g : Nat → Int32} {k j : Nat} (h : j ≠ k) : ∀ n, fo2 a k g n j = a j
  | 0 => upd_n h
  | n + 1 => by rw [fo2, upd_n h, fo2_n h n]
def fl2 (a : Nat → Int32) (g : Nat → Nat → Int32) (p : Nat) : Nat → Nat → Int32
  | 0 => a
  | n + 1 => fo2 (fl2 a g p n) n (g n) p
theorem fl2_get {a : Nat → Int32} {g : Nat → Nat → Int32} {p : Nat} : ∀ {n j : Nat}, j < n → fl2 a g p n j = orp (g j) p
  | n + 1, j, h => by
    rw [fl2]
    by_cases q : j = n
    · rw [q, fo2_k]
    · rw [fo2_n q, fl2_get (by omega)]
set_option maxHeartbeats 4000000 in
theorem sim_fewest {N : Nat} (hN : 3000 ≤ N) : S_fewest N gm_R := by
  intro m_imagesKept m_bads m_nos m_fulls m_above m_below m_now_words m_now_people m_now_said m_now_undos m_now_heard m_now_ending m_now_meaning m_now_cost m_now_alikeTo m_now_kind m_now_want m_now_saidAhead m_now_heardWord m_now_heardAnswer m_draft_words m_draft_people m_draft_said m_draft_undos m_draft_heard m_draft_ending m_draft_meaning m_draft_cost m_draft_alikeTo m_draft_kind m_draft_want m_draft_saidAhead m_draft_heardWord m_draft_heardAnswer m_images_0_words m_images_0_people m_images_0_said m_images_0_undos m_images_0_heard m_images_0_ending m_images_0_meaning m_images_0_cost m_images_0_alikeTo m_images_0_kind m_images_0_want m_images_0_saidAhead m_images_0_heardWord m_images_0_heardAnswer m_images_1_words m_images_1_people m_images_1_said m_images_1_undos m_images_1_heard m_images_1_ending m_images_1_meaning m_images_1_cost m_images_1_alikeTo m_images_1_kind m_images_1_want m_images_1_saidAhead m_images_1_heardWord m_images_1_heardAnswer m_text_length m_text_items m_text_place m_text_start m_text_token m_text_number m_text_bytes m_duel_words m_duel_saidAtFirst m_duel_asked m_duel_longest m_duel_shortest m_duel_chimesOfFirst m_duel_chimesOfSecond m_duel_lasts m_cover_sayable m_cover_price m_cover_covered m_cover_spent m_clashes m_tally m_sayableByPair m_chosenPairs n_thrown n_size n_at n_start n_token n_value n_faultAt n_allowed n_firstPair n_secondPair n_above n_below n_refused n_tongue n_fresh n_kept n_isKept n_text n_said n_talk hR x1 x2
  obtain ⟨hT, hX, hF, hA, hI, hC⟩ := hR
  have hT0 := hT
  obtain ⟨w, p, u, h, en, mn, cn, kn, wn, ⟨hw, hp, hu8, hh6⟩, ⟨rfl, rfl, rfl, rfl⟩, hrE, hrP, hr2, hco, hE, hM, hP, hs, hir, hh, hu, hsd⟩ := hT
  cases hi1 : inr x1 p with
  | false =>
    have h1 : fX10_fewest N m_bads m_nos m_fulls (nI w) (nI p) m_now_said m_now_ending m_now_meaning m_now_alikeTo m_now_kind m_now_want m_cover_sayable m_cover_price m_cover_covered m_cover_spent x1 x2 = some (-2, m_bads + 1, m_nos, m_fulls, m_cover_sayable, m_cover_price, m_cover_covered, m_cover_spent) := by
      unfold fX10_fewest fX10_fewest_b18
      rw [s_isPerson x1 (by omega), gm_bind_s, hi1, if_pos (by decide), s_refB, gm_bind_s]
    have h2 : fX11_fewest N n_thrown n_refused n_tongue n_said x1 x2 = some (-2, 0, upd n_refused 0 (n_refused 0 + 1), n_said) := by
      unfold fX11_fewest fX11_fewest_b20
      rw [s_noPerson x1 hrP.1 (by omega), gm_bind_s, hi1, if_neg (by decide), s_bad, gm_bind_s]
    exact ⟨_, _, h1, h2, rfl, hT0, hX, RFb hF, hA, hI, hC⟩
  | true =>
    obtain ⟨j, hj, rfl⟩ := inr_t hi1 (by omega)
    cases hi2 : inr x2 256 with
    | false =>
      have h1 : fX10_fewest N m_bads m_nos m_fulls (nI w) (nI p) m_now_said m_now_ending m_now_meaning m_now_alikeTo m_now_kind m_now_want m_cover_sayable m_cover_price m_cover_covered m_cover_spent (nI j) x2 = some (-2, m_bads + 1, m_nos, m_fulls, m_cover_sayable, m_cover_price, m_cover_covered, m_cover_spent) := by
        unfold fX10_fewest fX10_fewest_b18
        rw [s_isPerson (nI j) (by omega), gm_bind_s, hi1, if_neg (by decide), s_fl x2 256 256 rfl (by decide), gm_bind_s, hi2, if_pos (by decide), s_refB, gm_bind_s]
      have h2 : fX11_fewest N n_thrown n_refused n_tongue n_said (nI j) x2 = some (-2, 0, upd n_refused 0 (n_refused 0 + 1), n_said) := by
        unfold fX11_fewest fX11_fewest_b20
        rw [s_noPerson (nI j) hrP.1 (by omega), gm_bind_s, hi1, if_pos (by decide), s_areMeanings x2, gm_bind_s, hi2, if_pos (by decide), s_bad, gm_bind_s]
      exact ⟨_, _, h1, h2, rfl, hT0, hX, RFb hF, hA, hI, hC⟩
    | true =>
      obtain ⟨v, hv, rfl⟩ := inr_t hi2 (by omega)
      obtain ⟨hpw, hpw2⟩ := p2w w (by omega)
      obtain ⟨cv', sp', hc1, hc2, hc3⟩ := s_cheap (N := N) (x := nI v) (sy := fl m_cover_sayable (fun a => ms mn (bt (ans (kn j) (m_now_want j) en m_now_meaning m_now_alikeTo w m_now_said a)) w) w) (pr := fl m_cover_price (fun _ => 1) w) (g := (fun a => ms mn (bt (ans (kn j) (m_now_want j) en m_now_meaning m_now_alikeTo w m_now_said a)) w)) (c := fun _ => 1) hN hw (fun i hi => fl_get hi) (fun i hi => fl_get hi) hC.1 hC.2
      have h1 : fX10_fewest N m_bads m_nos m_fulls (nI w) (nI p) m_now_said m_now_ending m_now_meaning m_now_alikeTo m_now_kind m_now_want m_cover_sayable m_cover_price m_cover_covered m_cover_spent (nI j) (nI v) = some (cb (okc (nI v) (fun a => ms mn (bt (ans (kn j) (m_now_want j) en m_now_meaning m_now_alikeTo w m_now_said a)) w) w) (fun s => sb (fun _ => 1) (nI s) w) (2 ^ w), m_bads, m_nos, m_fulls, fl m_cover_sayable (fun a => ms mn (bt (ans (kn j) (m_now_want j) en m_now_meaning m_now_alikeTo w m_now_said a)) w) w, fl m_cover_price (fun _ => 1) w, cv', sp') := by
        unfold fX10_fewest
        rw [s_isPerson (nI j) (by omega), gm_bind_s, hi1, if_neg (by decide), s_fl (nI v) 256 256 rfl (by decide), gm_bind_s, hi2, if_neg (by decide)]
        unfold fX10_fewest_b27
        refine lpB w (fun i => fl m_cover_sayable (fun a => ms mn (bt (ans (kn j) (m_now_want j) en m_now_meaning m_now_alikeTo w m_now_said a)) w) i) (fun i => fl m_cover_price (fun _ => 1) i) _ ?_ ?_ 0 (by omega) (by omega)
        · intro r i hi
          unfold fX10_fewest_b27_body
          rw [hd_go hi (by omega), s_sayable (by omega) hw hp hE hM hP hj hi, gm_bind_s, gm_chk_n (by omega) (by decide), gm_chk_n (by omega) (by decide), cl_n (by omega), nI_1]
          rfl
        · intro r
          unfold fX10_fewest_b27_body fX10_fewest_b69
          rw [hd_end (by omega) (by omega), hc1, gm_bind_s]
      have h2 : fX11_fewest N n_thrown n_refused n_tongue n_said (nI j) (nI v) = some (cb (okc (nI v) (fun a => ms mn (bt (ans (kn j) (m_now_want j) en m_now_meaning m_now_alikeTo w m_now_said a)) w) w) (fun s => sb (fun _ => 1) (nI s) w) (2 ^ w), 0, n_refused, fl n_said (fun a => ms mn (bt (ans (kn j) (m_now_want j) en m_now_meaning m_now_alikeTo w m_now_said a)) w) w) := by
        unfold fX11_fewest
        rw [s_noPerson (nI j) hrP.1 (by omega), gm_bind_s, hi1, if_pos (by decide), s_areMeanings (nI v), gm_bind_s, hi2, if_neg (by decide)]
        unfold fX11_fewest_b27
        refine lpA w (fun i => fl n_said (fun a => ms mn (bt (ans (kn j) (m_now_want j) en m_now_meaning m_now_alikeTo w m_now_said a)) w) i) _ ?_ ?_ 0 (by omega) (by omega)
        · intro r i hi
          unfold fX11_fewest_b27_body
          rw [ck0 (by decide), cl0, hrE.1, hd_go hi (by omega), s_McanSay (by omega) hrE hrP hr2.1 hw hp hE hM hP hs hj hi, gm_bind_s, gm_chk_n (by omega) (by decide), cl_n (by omega), nI_1]
          rfl
        · intro r
          unfold fX11_fewest_b27_body
          rw [ck0 (by decide), cl0, hrE.1, hd_end (by omega) (by omega)]
          unfold fX11_fewest_b55 fX11_fewest_b60
          refine lpA (2 ^ w) (fun s => cb (okc (nI v) (fun a => ms mn (bt (ans (kn j) (m_now_want j) en m_now_meaning m_now_alikeTo w m_now_said a)) w) w) (fun s => sb (fun _ => 1) (nI s) w) s) _ ?_ ?_ 0 (by omega) (by omega)
          · intro r2 s hs2
            unfold fX11_fewest_b60_body
            rw [ck0 (by decide), cl0, hrE.1, hpw, hd_go hs2 (by omega), s_MsaidBy hN hw hrE.1 (fun i hi => fl_get hi), gm_bind_s]
            by_cases q : nI v &&& (ob (fun a => ms mn (bt (ans (kn j) (m_now_want j) en m_now_meaning m_now_alikeTo w m_now_said a)) w) (nI s) w ^^^ (-1)) = 0
            · have q' : okc (nI v) (fun a => ms mn (bt (ans (kn j) (m_now_want j) en m_now_meaning m_now_alikeTo w m_now_said a)) w) w s = true := decide_eq_true q
              rw [if_pos q]
              unfold fX11_fewest_b91 fX11_fewest_b120 fX11_fewest_b115 fX11_fewest_b121
              rw [if_neg (by decide)]
              rcases cb_p (okc (nI v) (fun a => ms mn (bt (ans (kn j) (m_now_want j) en m_now_meaning m_now_alikeTo w m_now_said a)) w) w) (fun s => sb (fun _ => 1) (nI s) w) s (by omega) with e1 | ⟨bb, hbb, e1⟩
              · rw [if_pos e1, cb, q', if_pos rfl, if_pos e1, nI_1]
              · rw [if_neg (by rw [e1]; exact nI_nm1 (by omega)), s_bits (by omega), gm_bind_s]
                rw [cb, q', if_pos rfl, e1, if_neg (nI_nm1 (by omega)), cl_n (by omega), s_bits (by omega), gm_bind_s, sm_sb hw hs2, sm_sb hw (show bb < 2 ^ w by omega), nI_1]
                by_cases q2 : sb (fun _ => 1) (nI bb) w ≤ sb (fun _ => 1) (nI s) w
                · rw [if_pos q2, if_pos q2]
                · rw [if_neg q2, if_neg q2]
            · have q' : okc (nI v) (fun a => ms mn (bt (ans (kn j) (m_now_want j) en m_now_meaning m_now_alikeTo w m_now_said a)) w) w s = false := decide_eq_false q
              rw [if_neg q]
              unfold fX11_fewest_b91 fX11_fewest_b120 fX11_fewest_b121
              rw [if_pos rfl, cb, q', if_neg (by decide), nI_1]
          · intro r2
            unfold fX11_fewest_b60_body
            rw [ck0 (by decide), cl0, hrE.1, hpw, hd_end (by omega) (by omega)]
      exact ⟨_, _, h1, h2, rfl, hT0, hX, hF, hA, hI, hc2, hc3⟩
set_option maxHeartbeats 4000000 in
theorem sim_errand {N : Nat} (hN : 3000 ≤ N) : S_errand N gm_R := by
  intro m_imagesKept m_bads m_nos m_fulls m_above m_below m_now_words m_now_people m_now_said m_now_undos m_now_heard m_now_ending m_now_meaning m_now_cost m_now_alikeTo m_now_kind m_now_want m_now_saidAhead m_now_heardWord m_now_heardAnswer m_draft_words m_draft_people m_draft_said m_draft_undos m_draft_heard m_draft_ending m_draft_meaning m_draft_cost m_draft_alikeTo m_draft_kind m_draft_want m_draft_saidAhead m_draft_heardWord m_draft_heardAnswer m_images_0_words m_images_0_people m_images_0_said m_images_0_undos m_images_0_heard m_images_0_ending m_images_0_meaning m_images_0_cost m_images_0_alikeTo m_images_0_kind m_images_0_want m_images_0_saidAhead m_images_0_heardWord m_images_0_heardAnswer m_images_1_words m_images_1_people m_images_1_said m_images_1_undos m_images_1_heard m_images_1_ending m_images_1_meaning m_images_1_cost m_images_1_alikeTo m_images_1_kind m_images_1_want m_images_1_saidAhead m_images_1_heardWord m_images_1_heardAnswer m_text_length m_text_items m_text_place m_text_start m_text_token m_text_number m_text_bytes m_duel_words m_duel_saidAtFirst m_duel_asked m_duel_longest m_duel_shortest m_duel_chimesOfFirst m_duel_chimesOfSecond m_duel_lasts m_cover_sayable m_cover_price m_cover_covered m_cover_spent m_clashes m_tally m_sayableByPair m_chosenPairs n_thrown n_size n_at n_start n_token n_value n_faultAt n_allowed n_firstPair n_secondPair n_above n_below n_refused n_tongue n_fresh n_kept n_isKept n_text n_said n_talk hR x1 x2
  obtain ⟨hT, hX, hF, hA, hI, hC⟩ := hR
  have hT0 := hT
  obtain ⟨w, p, u, h, en, mn, cn, kn, wn, ⟨hw, hp, hu8, hh6⟩, ⟨rfl, rfl, rfl, rfl⟩, hrE, hrP, hr2, hco, hE, hM, hP, hs, hir, hh, hu, hsd⟩ := hT
  cases hi1 : inr x1 256 with
  | false =>
    have h1 : fX10_errand N m_bads m_nos m_fulls (nI w) (nI p) m_now_said m_now_ending m_now_meaning m_now_cost m_now_alikeTo m_now_kind m_now_want m_cover_sayable m_cover_price m_cover_covered m_cover_spent x1 x2 = some (-10, m_bads + 1, m_nos, m_fulls, m_cover_sayable, m_cover_price, m_cover_covered, m_cover_spent) := by
      unfold fX10_errand fX10_errand_b18
      rw [s_fl x1 256 256 rfl (by decide), gm_bind_s, hi1, if_pos (by decide), s_refB, gm_bind_s]
    have h2 : fX11_errand N n_thrown n_refused n_tongue n_said x1 x2 = some (-10, 0, upd n_refused 0 (n_refused 0 + 1), n_said) := by
      unfold fX11_errand fX11_errand_b22
      rw [s_areMeanings x1, gm_bind_s, hi1, if_pos (by decide), s_badTen, gm_bind_s]
    exact ⟨_, _, h1, h2, rfl, hT0, hX, RFb hF, hA, hI, hC⟩
  | true =>
    obtain ⟨v, hv, rfl⟩ := inr_t hi1 (by omega)
    cases hi2 : inr x2 2 with
    | false =>
      have h1 : fX10_errand N m_bads m_nos m_fulls (nI w) (nI p) m_now_said m_now_ending m_now_meaning m_now_cost m_now_alikeTo m_now_kind m_now_want m_cover_sayable m_cover_price m_cover_covered m_cover_spent (nI v) x2 = some (-10, m_bads + 1, m_nos, m_fulls, m_cover_sayable, m_cover_price, m_cover_covered, m_cover_spent) := by
        unfold fX10_errand fX10_errand_b18
        rw [s_fl (nI v) 256 256 rfl (by decide), gm_bind_s, hi1, if_neg (by decide), s_fl x2 2 2 rfl (by decide), gm_bind_s, hi2, if_pos (by decide), s_refB, gm_bind_s]
      have h2 : fX11_errand N n_thrown n_refused n_tongue n_said (nI v) x2 = some (-10, 0, upd n_refused 0 (n_refused 0 + 1), n_said) := by
        unfold fX11_errand fX11_errand_b22
        rw [s_areMeanings (nI v), gm_bind_s, hi1, if_neg (by decide), s_in (B := 2) x2 1 (by decide), gm_bind_s, hi2, if_pos (by decide), s_badTen, gm_bind_s]
      exact ⟨_, _, h1, h2, rfl, hT0, hX, RFb hF, hA, hI, hC⟩
    | true =>
      obtain ⟨z, hz, rfl⟩ := inr_t hi2 (by omega)
      obtain ⟨hpw, hpw2⟩ := p2w w (by omega)
      obtain ⟨cv', sp', hc1, hc2, hc3⟩ := s_cheap (N := N) (x := nI v) (sy := fl2 m_cover_sayable (fun a q => ms mn (bt (ans (kn q) (m_now_want q) en m_now_meaning m_now_alikeTo w m_now_said a)) w) p w) (pr := fl m_cover_price m_now_cost w) (g := (fun a => orp ((fun a q => ms mn (bt (ans (kn q) (m_now_want q) en m_now_meaning m_now_alikeTo w m_now_said a)) w) a) p)) (c := m_now_cost) hN hw (fun i hi => fl2_get hi) (fun i hi => fl_get hi) hC.1 hC.2
      have hcost : ∀ x : Int32, fX9_costOf N (nI w) m_now_cost x = some (sb m_now_cost x w) := by
        intro x
        unfold fX9_costOf fX9_costOf_b4
        refine lpA w (fun i => sb m_now_cost x i) _ ?_ ?_ 0 (by omega) (by omega)
        · intro r i hi
          unfold fX9_costOf_b4_body fX9_costOf_b30
          rw [hd_go hi (by omega), nI_1]
          show _ = r (sb m_now_cost x i + _) _
          cases q : bt x i
          · rw [if_neg (fun e => by rw [(b_get1 x i (by omega)).mp e] at q; exact absurd q (by decide)), if_neg (by decide), Int32.add_zero]
          · rw [if_pos ((b_get1 x i (by omega)).mpr q), gm_chk_n (by omega) (by decide), gm_let_s, cl_n (by omega)]
            rfl
        · intro r
          unfold fX9_costOf_b4_body
          rw [hd_end (by omega) (by omega)]
      have h1 : fX10_errand N m_bads m_nos m_fulls (nI w) (nI p) m_now_said m_now_ending m_now_meaning m_now_cost m_now_alikeTo m_now_kind m_now_want m_cover_sayable m_cover_price m_cover_covered m_cover_spent (nI v) (nI z) = some (if nI z = 0 then (if cb (okc (nI v) (fun a => orp ((fun a q => ms mn (bt (ans (kn q) (m_now_want q) en m_now_meaning m_now_alikeTo w m_now_said a)) w) a) p) w) (fun s => sb m_now_cost (nI s) w) (2 ^ w) = -1 then (-1 : Int32) else sb m_now_cost (cb (okc (nI v) (fun a => orp ((fun a q => ms mn (bt (ans (kn q) (m_now_want q) en m_now_meaning m_now_alikeTo w m_now_said a)) w) a) p) w) (fun s => sb m_now_cost (nI s) w) (2 ^ w)) w) else cb (okc (nI v) (fun a => orp ((fun a q => ms mn (bt (ans (kn q) (m_now_want q) en m_now_meaning m_now_alikeTo w m_now_said a)) w) a) p) w) (fun s => sb m_now_cost (nI s) w) (2 ^ w), m_bads, m_nos, m_fulls, fl2 m_cover_sayable (fun a q => ms mn (bt (ans (kn q) (m_now_want q) en m_now_meaning m_now_alikeTo w m_now_said a)) w) p w, fl m_cover_price m_now_cost w, cv', sp') := by
        unfold fX10_errand
        rw [s_fl (nI v) 256 256 rfl (by decide), gm_bind_s, hi1, if_neg (by decide), s_fl (nI z) 2 2 rfl (by decide), gm_bind_s, hi2, if_neg (by decide)]
        unfold fX10_errand_b30
        refine lpB w (fun i => fl2 m_cover_sayable (fun a q => ms mn (bt (ans (kn q) (m_now_want q) en m_now_meaning m_now_alikeTo w m_now_said a)) w) p i) (fun i => fl m_cover_price m_now_cost i) _ ?_ ?_ 0 (by omega) (by omega)
        · intro r i hi
          unfold fX10_errand_b30_body
          rw [hd_go hi (by omega), gm_chk_n (by omega) (by decide), gm_chk_n (by omega) (by decide), gm_chk_n (by omega) (by decide), cl_n (by omega)]
          unfold fX10_errand_b72
          refine lpA p (fun q => fo2 (fl2 m_cover_sayable (fun a q => ms mn (bt (ans (kn q) (m_now_want q) en m_now_meaning m_now_alikeTo w m_now_said a)) w) p i) i ((fun a q => ms mn (bt (ans (kn q) (m_now_want q) en m_now_meaning m_now_alikeTo w m_now_said a)) w) i) q) _ ?_ ?_ 0 (by omega) (by omega)
          · intro r2 q hq
            unfold fX10_errand_b72_body
            rw [hd_go hq (by omega), gm_chk_n (by omega) (by decide), s_sayable (by omega) hw hp hE hM hP hq hi, gm_bind_s, gm_chk_n (by omega) (by decide), cl_n (by omega), nI_1]
            rfl
          · intro r2
            unfold fX10_errand_b72_body fX10_errand_b109
            rw [hd_end (by omega) (by omega), nI_1]
            rfl
        · intro r
          unfold fX10_errand_b30_body fX10_errand_b115
          rw [hd_end (by omega) (by omega), hc1, gm_bind_s]
          dsimp only
          by_cases q : cb (okc (nI v) (fun a => orp ((fun a q => ms mn (bt (ans (kn q) (m_now_want q) en m_now_meaning m_now_alikeTo w m_now_said a)) w) a) p) w) (fun s => sb m_now_cost (nI s) w) (2 ^ w) = -1
          · rw [if_pos q, if_pos q, q, ite_self]
          · rw [if_neg q, if_neg q]
            rcases (show z = 0 ∨ z = 1 by omega) with e | e
            · subst e
              rw [if_neg (by decide), hcost, gm_bind_s, if_pos (show nI 0 = (0 : Int32) from rfl)]
            · subst e
              rw [if_pos (show nI 1 = (1 : Int32) from rfl), if_neg (by decide)]
      have h2 : fX11_errand N n_thrown n_refused n_tongue n_said (nI v) (nI z) = some (if nI z = 0 then (if cb (okc (nI v) (fun a => orp ((fun a q => ms mn (bt (ans (kn q) (m_now_want q) en m_now_meaning m_now_alikeTo w m_now_said a)) w) a) p) w) (fun s => sb m_now_cost (nI s) w) (2 ^ w) = -1 then (-1 : Int32) else sb m_now_cost (cb (okc (nI v) (fun a => orp ((fun a q => ms mn (bt (ans (kn q) (m_now_want q) en m_now_meaning m_now_alikeTo w m_now_said a)) w) a) p) w) (fun s => sb m_now_cost (nI s) w) (2 ^ w)) w) else cb (okc (nI v) (fun a => orp ((fun a q => ms mn (bt (ans (kn q) (m_now_want q) en m_now_meaning m_now_alikeTo w m_now_said a)) w) a) p) w) (fun s => sb m_now_cost (nI s) w) (2 ^ w), 0, n_refused, fl2 n_said (fun a q => ms mn (bt (ans (kn q) (m_now_want q) en m_now_meaning m_now_alikeTo w m_now_said a)) w) p w) := by
        unfold fX11_errand
        rw [s_areMeanings (nI v), gm_bind_s, hi1, if_neg (by decide), s_in (B := 2) (nI z) 1 (by decide), gm_bind_s, hi2, if_neg (by decide)]
        unfold fX11_errand_b29
        refine lpA w (fun i => fl2 n_said (fun a q => ms mn (bt (ans (kn q) (m_now_want q) en m_now_meaning m_now_alikeTo w m_now_said a)) w) p i) _ ?_ ?_ 0 (by omega) (by omega)
        · intro r i hi
          unfold fX11_errand_b29_body
          rw [ck0 (by decide), cl0, hrE.1, hd_go hi (by omega), gm_chk_n (by omega) (by decide), cl_n (by omega)]
          unfold fX11_errand_b49
          refine lpA p (fun q => fo2 (fl2 n_said (fun a q => ms mn (bt (ans (kn q) (m_now_want q) en m_now_meaning m_now_alikeTo w m_now_said a)) w) p i) i ((fun a q => ms mn (bt (ans (kn q) (m_now_want q) en m_now_meaning m_now_alikeTo w m_now_said a)) w) i) q) _ ?_ ?_ 0 (by omega) (by omega)
          · intro r2 q hq
            unfold fX11_errand_b49_body
            rw [ck1 (by decide), cl1, hrP.1, hd_go hq (by omega), gm_chk_n (by omega) (by decide), s_McanSay (by omega) hrE hrP hr2.1 hw hp hE hM hP hs hq hi, gm_bind_s, gm_chk_n (by omega) (by decide), cl_n (by omega), nI_1]
            rfl
          · intro r2
            unfold fX11_errand_b49_body fX11_errand_b82
            rw [ck1 (by decide), cl1, hrP.1, hd_end (by omega) (by omega), nI_1]
            rfl
        · intro r
          unfold fX11_errand_b29_body
          rw [ck0 (by decide), cl0, hrE.1, hd_end (by omega) (by omega)]
          unfold fX11_errand_b88 fX11_errand_b96
          refine lpB (2 ^ w) (fun s => cb (okc (nI v) (fun a => orp ((fun a q => ms mn (bt (ans (kn q) (m_now_want q) en m_now_meaning m_now_alikeTo w m_now_said a)) w) a) p) w) (fun s => sb m_now_cost (nI s) w) s) (fun s => if (cb (okc (nI v) (fun a => orp ((fun a q => ms mn (bt (ans (kn q) (m_now_want q) en m_now_meaning m_now_alikeTo w m_now_said a)) w) a) p) w) (fun s => sb m_now_cost (nI s) w) s) = -1 then (-1 : Int32) else sb m_now_cost (cb (okc (nI v) (fun a => orp ((fun a q => ms mn (bt (ans (kn q) (m_now_want q) en m_now_meaning m_now_alikeTo w m_now_said a)) w) a) p) w) (fun s => sb m_now_cost (nI s) w) s) w) _ ?_ ?_ 0 (by omega) (by omega)
          · intro r2 s hs2
            unfold fX11_errand_b96_body
            rw [ck0 (by decide), cl0, hrE.1, hpw, hd_go hs2 (by omega)]
            unfold fX11_errand_b115
            refine lpA w (fun i => sb m_now_cost (nI s) i) _ ?_ ?_ 0 (by omega) (by omega)
            · intro r3 i hi
              unfold fX11_errand_b115_body fX11_errand_b155
              rw [ck0 (by decide), cl0, hrE.1, hd_go hi (by omega), s_Mhas _ (by omega), gm_bind_s, nI_1]
              show _ = r3 (sb m_now_cost (nI s) i + _) _
              cases q : bt (nI s) i
              · rw [if_pos (by decide), gm_let_s]; rfl
              · rw [if_neg (by decide), ix3, nI_2, gm_chk_n (by omega) (by decide), gm_let_s, cl_n (by omega), (hco i hi).1]; rfl
            · intro r3
              unfold fX11_errand_b115_body
              rw [ck0 (by decide), cl0, hrE.1, hd_end (by omega) (by omega)]
              unfold fX11_errand_b164
              rw [s_MsaidBy hN hw hrE.1 (fun i hi => fl2_get hi), gm_bind_s]
              by_cases q : nI v &&& (ob (fun a => orp ((fun a q => ms mn (bt (ans (kn q) (m_now_want q) en m_now_meaning m_now_alikeTo w m_now_said a)) w) a) p) (nI s) w ^^^ (-1)) = 0
              · have q' : okc (nI v) (fun a => orp ((fun a q => ms mn (bt (ans (kn q) (m_now_want q) en m_now_meaning m_now_alikeTo w m_now_said a)) w) a) p) w s = true := decide_eq_true q
                rw [if_pos q]
                unfold fX11_errand_b189 fX11_errand_b193 fX11_errand_b194 fX11_errand_b207 fX11_errand_b220
                rcases cb_p (okc (nI v) (fun a => orp ((fun a q => ms mn (bt (ans (kn q) (m_now_want q) en m_now_meaning m_now_alikeTo w m_now_said a)) w) a) p) w) (fun s => sb m_now_cost (nI s) w) s (by omega) with e1 | ⟨bb, hbb, e1⟩
                · have e2 : cb (okc (nI v) (fun a => orp ((fun a q => ms mn (bt (ans (kn q) (m_now_want q) en m_now_meaning m_now_alikeTo w m_now_said a)) w) a) p) w) (fun s => sb m_now_cost (nI s) w) (s + 1) = nI s := by rw [cb, q', if_pos rfl, if_pos e1]
                  rw [if_pos e1, if_neg (by decide), if_neg (by decide), e2, if_neg (nI_nm1 (by omega)), nI_1]
                · rw [e1, if_neg (nI_nm1 (by omega)), if_neg (nI_nm1 (by omega))]
                  by_cases q2 : sb m_now_cost (nI bb) w ≤ sb m_now_cost (nI s) w
                  · have e2 : cb (okc (nI v) (fun a => orp ((fun a q => ms mn (bt (ans (kn q) (m_now_want q) en m_now_meaning m_now_alikeTo w m_now_said a)) w) a) p) w) (fun s => sb m_now_cost (nI s) w) (s + 1) = nI bb := by rw [cb, q', if_pos rfl, e1, if_neg (nI_nm1 (by omega)), cl_n (by omega), if_pos q2]
                    rw [if_pos q2, if_pos rfl, if_pos rfl, e2, if_neg (nI_nm1 (by omega)), nI_1]
                  · have e2 : cb (okc (nI v) (fun a => orp ((fun a q => ms mn (bt (ans (kn q) (m_now_want q) en m_now_meaning m_now_alikeTo w m_now_said a)) w) a) p) w) (fun s => sb m_now_cost (nI s) w) (s + 1) = nI s := by rw [cb, q', if_pos rfl, e1, if_neg (nI_nm1 (by omega)), cl_n (by omega), if_neg q2]
                    rw [if_neg q2, if_neg (by decide), if_neg (by decide), e2, if_neg (nI_nm1 (by omega)), nI_1]
              · have q' : okc (nI v) (fun a => orp ((fun a q => ms mn (bt (ans (kn q) (m_now_want q) en m_now_meaning m_now_alikeTo w m_now_said a)) w) a) p) w s = false := decide_eq_false q
                have e2 : cb (okc (nI v) (fun a => orp ((fun a q => ms mn (bt (ans (kn q) (m_now_want q) en m_now_meaning m_now_alikeTo w m_now_said a)) w) a) p) w) (fun s => sb m_now_cost (nI s) w) (s + 1) = cb (okc (nI v) (fun a => orp ((fun a q => ms mn (bt (ans (kn q) (m_now_want q) en m_now_meaning m_now_alikeTo w m_now_said a)) w) a) p) w) (fun s => sb m_now_cost (nI s) w) s := by rw [cb, q', if_neg (by decide)]
                rw [if_neg q]
                unfold fX11_errand_b193 fX11_errand_b194 fX11_errand_b207 fX11_errand_b220
                rw [if_pos rfl, if_pos rfl, e2, nI_1]
          · intro r2
            unfold fX11_errand_b96_body fX11_errand_b228
            rw [ck0 (by decide), cl0, hrE.1, hpw, hd_end (by omega) (by omega)]
            by_cases q : nI z = 0
            · rw [if_pos q, if_pos q]
            · rw [if_neg q, if_neg q]
      exact ⟨_, _, h1, h2, rfl, hT0, hX, hF, hA, hI, hc2, hc3⟩
