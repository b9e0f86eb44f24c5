/-! ===== a will ===== -/
theorem p2w : ∀ w, w < 11 → (1 : Int32) <<< (nI w &&& 31) = nI (2 ^ w) ∧ 2 ^ w ≤ 1024 := by decide +kernel
theorem allb_f {f : Nat → Bool} {i n : Nat} (h : i ≤ n) (hi : allb f i = false) : allb f n = false := by
  cases hq : allb f n with
  | false => rfl
  | true =>
    have := allb_t.mp hq
    rw [allb_t.mpr (fun j hj => this j (by omega))] at hi
    exact absurd hi (by decide)
theorem s_fillC {N w k v : Nat} {e m al c : Nat → Int32} {en : Nat → Nat} (hN : 3000 ≤ N) (hw : w ≤ 10) (he : okE w e en) (hk : k < 6) : ∃ c', fX10_fillClashes N (nI w) e m al c (nI k) (nI v) = some c' ∧ ∀ j, j < w → c' j = bs (chi k (nI v) en m al j) w &&& (((1 : Int32) <<< (nI j &&& 31)) ^^^ (-1)) := by
  unfold fX10_fillClashes fX10_fillClashes_b2
  refine fx2 (fun d (a : Nat → Int32) (b : Int32) => ∃ i, i + d = w ∧ b = nI i ∧ ∀ j, j < i → a j = bs (chi k (nI v) en m al j) w &&& (((1 : Int32) <<< (nI j &&& 31)) ^^^ (-1))) (fun (o : Option (Nat → Int32)) => ∃ c', o = some c' ∧ ∀ j, j < w → c' j = bs (chi k (nI v) en m al j) w &&& (((1 : Int32) <<< (nI j &&& 31)) ^^^ (-1))) ?_ N w c 0 (by omega) ⟨0, by omega, rfl, fun j hj => absurd hj (Nat.not_lt_zero j)⟩
  intro r d a b hI hr
  obtain ⟨i, hi, rfl, hz⟩ := hI
  unfold fX10_fillClashes_b2_body
  rcases Nat.eq_zero_or_pos d with h0 | h0
  · rw [hd_end (by omega) (by omega)]
    exact ⟨a, rfl, fun j hj => hz j (by omega)⟩
  · have hiw : i < w := by omega
    rw [hd_go hiw (by omega), gm_chk_n hk (by decide), s_KD (by omega) hw he hiw hk, gm_bind_s, gm_chk_n (by omega) (by decide), cl_n (by omega)]
    refine hr _ _ (d - 1) (by omega) ⟨i + 1, by omega, nI_1 i, fun j hj => ?_⟩
    by_cases q : j = i
    · subst q; exact upd_s
    · rw [upd_n q]; exact hz j (by omega)
def gd (S : Int32) (ch : Nat → Nat → Bool) (x y : Nat) : Bool := decide (x = y) || !bt S x || !bt S y || !ch y x
def pce (S : Int32) (ch : Nat → Nat → Bool) (w : Nat) : Bool := allb (fun x => allb (gd S ch x) w) w
theorem s_peace {N w : Nat} {S : Int32} {c : Nat → Int32} {ch : Nat → Nat → Bool} (hN : 3000 ≤ N) (hw : w ≤ 10) (hc : ∀ j, j < w → c j = bs (ch j) w &&& (((1 : Int32) <<< (nI j &&& 31)) ^^^ (-1))) : fX10_isPeaceful N (nI w) c S = some (bi (pce S ch w)) := by
  have key : pce S ch w = allb (fun j => !bt S j || decide (c j &&& S = 0)) w := by
    apply Bool.eq_iff_iff.mpr
    unfold pce
    rw [allb_t, allb_t]
    constructor
    · intro h j hj
      cases hb : bt S j with
      | false => rfl
      | true =>
        have : c j &&& S = 0 := by
          apply b_ext
          intro i hi
          rw [b_0, b_and, hc j hj, b_and, bs_bt _ w (by omega) i hi, b_not _ hi, b_one j (by omega) hi]
          rcases Nat.lt_or_ge i w with q | q
          · have h1 := allb_t.mp (h i q) j hj
            unfold gd at h1
            rw [hb] at h1
            by_cases e : i = j
            · simp [e]
            · simp [e] at h1
              rcases h1 with h1 | h1
              · simp [h1]
              · simp [h1]
          · simp [Nat.not_lt.mpr q]
        simp [this]
    · intro h x hx
      rw [allb_t]
      intro y hy
      unfold gd
      have h1 := h y hy
      cases hb : bt S y with
      | false => simp
      | true =>
        rw [hb] at h1
        have h2 : c y &&& S = 0 := by simpa using h1
        by_cases e : x = y
        · simp [e]
        · have h3 := congrArg (fun z => bt z x) h2
          simp only [b_0, b_and, hc y hy, bs_bt _ w (show w ≤ 32 by omega) x (by omega), b_not _ (show x < 32 by omega), b_one y (by omega) (show x < 32 by omega)] at h3
          simp [e, hx] at h3
          cases hx2 : bt S x with
          | false => simp
          | true =>
            cases hq : ch y x with
            | false => simp
            | true => simp [hq, hx2] at h3
  rw [key]
  unfold fX10_isPeaceful fX10_isPeaceful_b2
  refine fx1 (fun d (b : Int32) => ∃ i, i + d = w ∧ b = nI i ∧ allb (fun j => !bt S j || decide (c j &&& S = 0)) i = true) (fun o => o = some (bi (allb (fun j => !bt S j || decide (c j &&& S = 0)) w))) ?_ N w 0 (by omega) ⟨0, by omega, rfl, rfl⟩
  intro r d b hI hr
  obtain ⟨i, hi, rfl, hz⟩ := hI
  unfold fX10_isPeaceful_b2_body fX10_isPeaceful_b35
  rcases Nat.eq_zero_or_pos d with h0 | h0
  · rw [hd_end (by omega) (by omega), ← show i = w by omega, hz]; rfl
  · have hiw : i < w := by omega
    rw [hd_go hiw (by omega), b_get S i (by omega)]
    cases hb : bt S i with
    | false =>
      rw [if_neg (by decide)]
      exact hr _ (d - 1) (by omega) ⟨i + 1, by omega, nI_1 i, by rw [allb, hz, hb]; rfl⟩
    | true =>
      rw [if_pos (by decide), gm_chk_n (by omega) (by decide), cl_n (by omega)]
      by_cases q : c i &&& S = 0
      · rw [if_pos q]
        exact hr _ (d - 1) (by omega) ⟨i + 1, by omega, nI_1 i, by rw [allb, hz, hb, decide_eq_true q]; rfl⟩
      · rw [if_neg q, allb_f (i := i + 1) (by omega) (by rw [allb, hz, hb, decide_eq_false q]; rfl)]
        rfl
/-- the model's two loops -/
theorem s_Mpc1 {N w k v x : Nat} {S best : Int32} {t : Int32} {rf f e m al : Nat → Int32} {en : Nat → Nat} {r39 r74 : Int32 → Int32 → Option (Int32 × Int32 × (Nat → Int32))} (hN : 3000 ≤ N) (hf : rowE w f e m al) (hw : w ≤ 10) (he : okE w e en) (hs : symA al) (hk : k < 6) (hx : x < w) (g : Bool) : fX11_will_b93 N r39 r74 t rf f (nI k) (nI v) best S (nI x) (bi g) 0 = r74 (bi (g && allb (gd S (chi k (nI v) en m al) x) w)) (nI (x + 1)) := by
  unfold fX11_will_b93
  refine fx2 (fun d (a b : Int32) => ∃ i, i + d = w ∧ b = nI i ∧ a = bi (g && allb (gd S (chi k (nI v) en m al) x) i)) (fun o => o = r74 (bi (g && allb (gd S (chi k (nI v) en m al) x) w)) (nI (x + 1))) ?_ N w (bi g) 0 (by omega) ⟨0, by omega, rfl, by rw [allb, Bool.and_true]⟩
  intro r d a b hI hr
  obtain ⟨i, hi, rfl, rfl⟩ := hI
  unfold fX11_will_b93_body fX11_will_b162 fX11_will_b149 fX11_will_b154
  rw [ck0 (by decide), cl0, hf.1]
  rcases Nat.eq_zero_or_pos d with h0 | h0
  · rw [hd_end (by omega) (by omega), nI_1, show i = w by omega]
  · have hiw : i < w := by omega
    rw [hd_go hiw (by omega)]
    cases hg : (g && allb (gd S (chi k (nI v) en m al) x) i) with
    | false =>
      rw [if_pos (by decide), nI_1]
      have : (g && allb (gd S (chi k (nI v) en m al) x) w) = false := by
        cases g with
        | false => rfl
        | true => rw [Bool.true_and] at hg ⊢; exact allb_f (by omega) hg
      rw [this]
    | true =>
      have hga : g = true ∧ allb (gd S (chi k (nI v) en m al) x) i = true := by simpa using hg
      have nxt : ∀ q : Bool, gd S (chi k (nI v) en m al) x i = q → r (bi q) (nI i + 1) = r74 (bi (g && allb (gd S (chi k (nI v) en m al) x) w)) (nI (x + 1)) := fun q hq => hr _ _ (d - 1) (by omega) ⟨i + 1, by omega, nI_1 i, by rw [allb, hga.1, hga.2, hq]; rfl⟩
      rw [if_neg (by decide)]
      by_cases q : x = i
      · rw [if_pos (by rw [q])]
        exact nxt true (by unfold gd; simp [q])
      · rw [if_neg (fun z => q ((nI_eq (by omega) (by omega)).mp z)), s_Mhas S (by omega), gm_bind_s]
        cases hb : bt S x with
        | false => rw [if_pos (by decide)]; exact nxt true (by unfold gd; simp [hb])
        | true =>
          rw [if_neg (by decide), s_Mhas S (by omega), gm_bind_s]
          cases hb2 : bt S i with
          | false => rw [if_pos (by decide)]; exact nxt true (by unfold gd; simp [hb2])
          | true =>
            rw [if_neg (by decide), s_Mchimes hf hw he hs hx hiw hk, gm_bind_s]
            cases hc : chi k (nI v) en m al i x with
            | false => rw [if_pos (by decide)]; exact nxt true (by unfold gd; simp [hc])
            | true => rw [if_neg (by decide)]; exact nxt false (by unfold gd; simp [q, hb, hb2, hc])
theorem s_Mpc2 {N w k v : Nat} {S best : Int32} {t : Int32} {rf f e m al : Nat → Int32} {en : Nat → Nat} {r39 : Int32 → Int32 → Option (Int32 × Int32 × (Nat → Int32))} (hN : 3000 ≤ N) (hf : rowE w f e m al) (hw : w ≤ 10) (he : okE w e en) (hs : symA al) (hk : k < 6) (g : Bool) : fX11_will_b74 N r39 t rf f (nI k) (nI v) best S (bi g) 0 = fX11_will_b168 N r39 t rf f (nI k) (nI v) best S (bi (g && pce S (chi k (nI v) en m al) w)) := by
  unfold fX11_will_b74 pce
  refine fx2 (fun d (a b : Int32) => ∃ i, i + d = w ∧ b = nI i ∧ a = bi (g && allb (fun x => allb (gd S (chi k (nI v) en m al) x) w) i)) (fun o => o = fX11_will_b168 N r39 t rf f (nI k) (nI v) best S (bi (g && allb (fun x => allb (gd S (chi k (nI v) en m al) x) w) w))) ?_ N w (bi g) 0 (by omega) ⟨0, by omega, rfl, by rw [allb, Bool.and_true]⟩
  intro r d a b hI hr
  obtain ⟨i, hi, rfl, rfl⟩ := hI
  unfold fX11_will_b74_body
  rw [ck0 (by decide), cl0, hf.1]
  rcases Nat.eq_zero_or_pos d with h0 | h0
  · rw [hd_end (by omega) (by omega)]
    rw [show i = w by omega]
  · have hiw : i < w := by omega
    rw [hd_go hiw (by omega)]
    cases hg : (g && allb (fun x => allb (gd S (chi k (nI v) en m al) x) w) i) with
    | false =>
      rw [if_pos (by decide)]
      have : (g && allb (fun x => allb (gd S (chi k (nI v) en m al) x) w) w) = false := by
        cases g with
        | false => rfl
        | true => rw [Bool.true_and] at hg ⊢; exact allb_f (by omega) hg
      rw [this]
    | true =>
      rw [if_neg (by decide), s_Mpc1 hN hf hw he hs hk hiw true]
      refine hr _ _ (d - 1) (by omega) ⟨i + 1, by omega, rfl, ?_⟩
      rw [allb, ← Bool.and_assoc, hg]
def bw (pc : Nat → Bool) : Nat → Nat
  | 0 => 0
  | s + 1 => if bc (nI s) ≤ bc (nI (bw pc s)) then bw pc s else if pc s then s else bw pc s
theorem bw_lt (pc : Nat → Bool) : ∀ s, bw pc s ≤ s
  | 0 => Nat.le_refl 0
  | s + 1 => by
    rw [bw]
    have := bw_lt pc s
    split
    · omega
    · split <;> omega
theorem bw_lt2 (pc : Nat → Bool) : ∀ s, 0 < s → bw pc s < s
  | s + 1, _ => by
    rw [bw]
    have := bw_lt pc s
    split
    · omega
    · split <;> omega
theorem s_willL {N w : Nat} {b n fl : Int32} {c : Nat → Int32} {ch : Nat → Nat → Bool} (hN : 3000 ≤ N) (hw : w ≤ 10) (hc : ∀ j, j < w → c j = bs (ch j) w &&& (((1 : Int32) <<< (nI j &&& 31)) ^^^ (-1))) : fX10_will_b47 N b n fl (nI w) c (nI (2 ^ w)) 0 1 = some (nI (bw (fun s => pce (nI s) ch w) (2 ^ w)), b, n, fl, c) := by
  have h2 := (p2w w (by omega)).2
  have h1 : 1 ≤ 2 ^ w := Nat.one_le_two_pow
  unfold fX10_will_b47
  have e0 : (0 : Int32) = nI (bw (fun s => pce (nI s) ch w) 1) := by
    have hb0 : bw (fun s => pce (nI s) ch w) 0 = 0 := rfl
    rw [bw, hb0, if_pos (by decide)]; rfl
  rw [show gm_fix (fX10_will_b47_body N b n fl (nI w) c (nI (2 ^ w))) (fun _ _ => none) N 0 1 = gm_fix (fX10_will_b47_body N b n fl (nI w) c (nI (2 ^ w))) (fun _ _ => none) N (nI (bw (fun s => pce (nI s) ch w) 1)) (nI 1) by rw [← e0]; rfl]
  refine lpA (2 ^ w) (fun s => nI (bw (fun s => pce (nI s) ch w) s)) _ ?_ ?_ 1 h1 (by omega)
  · intro r s hs
    unfold fX10_will_b47_body fX10_will_b78
    rw [hd_go hs (by omega), s_bitCount, gm_bind_s, s_bitCount, gm_bind_s, bw]
    by_cases q : bc (nI s) ≤ bc (nI (bw (fun s => pce (nI s) ch w) s))
    · rw [if_pos q, if_pos q, nI_1]
    · rw [if_neg q, if_neg q, s_peace hN hw hc, gm_bind_s]
      cases pce (nI s) ch w with
      | false => rw [if_pos (by decide), nI_1]; rfl
      | true => rw [if_neg (by decide), nI_1]; rfl
  · intro r
    unfold fX10_will_b47_body
    rw [hd_end (by omega) (by omega)]
theorem s_MwillL {N w k v : Nat} {t : Int32} {rf f e m al : Nat → Int32} {en : Nat → Nat} (hN : 3000 ≤ N) (hf : rowE w f e m al) (hw : w ≤ 10) (he : okE w e en) (hs : symA al) (hk : k < 6) : fX11_will_b39 N t rf f (nI k) (nI v) 0 0 = some (nI (bw (fun s => pce (nI s) (chi k (nI v) en m al) w) (2 ^ w)), t, rf) := by
  have h2 := p2w w (by omega)
  unfold fX11_will_b39
  refine lpA (2 ^ w) (fun s => nI (bw (fun s => pce (nI s) (chi k (nI v) en m al) w) s)) _ ?_ ?_ 0 (Nat.zero_le _) (by omega)
  · intro r s hs'
    have hb := bw_lt (fun s => pce (nI s) (chi k (nI v) en m al) w) s
    have fin : ∀ q : Bool, fX11_will_b168 N r t rf f (nI k) (nI v) (nI (bw (fun s => pce (nI s) (chi k (nI v) en m al) w) s)) (nI s) (bi q) = r (if q then nI s else nI (bw (fun s => pce (nI s) (chi k (nI v) en m al) w) s)) (nI (s + 1)) := by
      intro q
      unfold fX11_will_b168 fX11_will_b179
      cases q
      · rw [if_pos (by decide), nI_1]; rfl
      · rw [if_neg (by decide), nI_1]; rfl
    unfold fX11_will_b39_body fX11_will_b69
    rw [ck0 (by decide), cl0, hf.1, h2.1, hd_go hs' (by omega), s_bits (by omega), gm_bind_s, s_bits (by omega), gm_bind_s, ← bc_sm s (by omega), ← bc_sm _ (show bw (fun s => pce (nI s) (chi k (nI v) en m al) w) s < 1024 by omega), bw]
    by_cases q : bc (nI s) ≤ bc (nI (bw (fun s => pce (nI s) (chi k (nI v) en m al) w) s))
    · rw [if_pos q, if_pos q]
      have := s_Mpc2 (S := nI s) (best := nI (bw (fun s => pce (nI s) (chi k (nI v) en m al) w) s)) (v := v) (t := t) (rf := rf) (r39 := r) hN hf hw he hs hk false
      rw [show (0 : Int32) = bi false from rfl, show fX11_will_b74 N r t rf f (nI k) (nI v) (nI (bw (fun s => pce (nI s) (chi k (nI v) en m al) w) s)) (nI s) (bi false) (bi false) = _ from this, Bool.false_and, fin]
      rfl
    · rw [if_neg q, if_neg q]
      have := s_Mpc2 (S := nI s) (best := nI (bw (fun s => pce (nI s) (chi k (nI v) en m al) w) s)) (v := v) (t := t) (rf := rf) (r39 := r) hN hf hw he hs hk true
      rw [show fX11_will_b74 N r t rf f (nI k) (nI v) (nI (bw (fun s => pce (nI s) (chi k (nI v) en m al) w) s)) (nI s) 1 0 = _ from this, Bool.true_and, fin]
      cases pce (nI s) (chi k (nI v) en m al) w <;> rfl
  · intro r
    unfold fX11_will_b39_body
    rw [ck0 (by decide), cl0, hf.1, h2.1, hd_end (by omega) (by omega)]
set_option maxHeartbeats 4000000 in
theorem sim_will {N : Nat} (hN : 3000 ≤ N) : S_will N gm_R := by
  intro m_imagesKept m_bads m_nos m_fulls m_above m_below m_now_words m_now_people m_now_said m_now_undos m_now_heard m_now_ending m_now_meaning m_now_cost m_now_alikeTo m_now_kind m_now_want m_now_saidAhead m_now_heardWord m_now_heardAnswer m_draft_words m_draft_people m_draft_said m_draft_undos m_draft_heard m_draft_ending m_draft_meaning m_draft_cost m_draft_alikeTo m_draft_kind m_draft_want m_draft_saidAhead m_draft_heardWord m_draft_heardAnswer m_images_0_words m_images_0_people m_images_0_said m_images_0_undos m_images_0_heard m_images_0_ending m_images_0_meaning m_images_0_cost m_images_0_alikeTo m_images_0_kind m_images_0_want m_images_0_saidAhead m_images_0_heardWord m_images_0_heardAnswer m_images_1_words m_images_1_people m_images_1_said m_images_1_undos m_images_1_heard m_images_1_ending m_images_1_meaning m_images_1_cost m_images_1_alikeTo m_images_1_kind m_images_1_want m_images_1_saidAhead m_images_1_heardWord m_images_1_heardAnswer m_text_length m_text_items m_text_place m_text_start m_text_token m_text_number m_text_bytes m_duel_words m_duel_saidAtFirst m_duel_asked m_duel_longest m_duel_shortest m_duel_chimesOfFirst m_duel_chimesOfSecond m_duel_lasts m_cover_sayable m_cover_price m_cover_covered m_cover_spent m_clashes m_tally m_sayableByPair m_chosenPairs n_thrown n_size n_at n_start n_token n_value n_faultAt n_allowed n_firstPair n_secondPair n_above n_below n_refused n_tongue n_fresh n_kept n_isKept n_text n_said n_talk hR x1 x2
  obtain ⟨hT, hX, hF, hA, hI, hC⟩ := hR
  have hT0 := hT
  obtain ⟨w, p, u, h, en, mn, cn, kn, wn, ⟨hw, hp, hu8, hh6⟩, ⟨rfl, rfl, rfl, rfl⟩, hrE, hrP, hr2, hco, hE, hM, hP, hs, hir, hh, hu, hsd⟩ := hT
  cases hi1 : inr x1 6 with
  | false =>
    have h1 : fX10_will N m_bads m_nos m_fulls (nI w) m_now_ending m_now_meaning m_now_alikeTo m_clashes x1 x2 = some (-2, m_bads + 1, m_nos, m_fulls, m_clashes) := by
      unfold fX10_will fX10_will_b18
      rw [s_fl x1 6 6 rfl (by decide), gm_bind_s, hi1, if_pos (by decide), s_refB, gm_bind_s]
    have h2 : fX11_will N n_thrown n_refused n_tongue x1 x2 = some (-2, 0, upd n_refused 0 (n_refused 0 + 1)) := by
      unfold fX11_will fX11_will_b29
      rw [s_in (B := 6) x1 5 (by decide), gm_bind_s, hi1, if_pos (by decide), s_bad, gm_bind_s]
    exact ⟨_, _, h1, h2, rfl, hT0, hX, RFb hF, hA, hI, hC⟩
  | true =>
    obtain ⟨k, hk, rfl⟩ := inr_t hi1 (by omega)
    cases hi2 : inr x2 8 with
    | false =>
      have h1 : fX10_will N m_bads m_nos m_fulls (nI w) m_now_ending m_now_meaning m_now_alikeTo m_clashes (nI k) x2 = some (-2, m_bads + 1, m_nos, m_fulls, m_clashes) := by
        unfold fX10_will fX10_will_b18
        rw [s_fl (nI k) 6 6 rfl (by decide), gm_bind_s, hi1, if_neg (by decide), s_fl x2 8 8 rfl (by decide), gm_bind_s, hi2, if_pos (by decide), s_refB, gm_bind_s]
      have h2 : fX11_will N n_thrown n_refused n_tongue (nI k) x2 = some (-2, 0, upd n_refused 0 (n_refused 0 + 1)) := by
        unfold fX11_will fX11_will_b29
        rw [s_in (B := 6) (nI k) 5 (by decide), gm_bind_s, hi1, if_neg (by decide), s_in (B := 8) x2 7 (by decide), gm_bind_s, hi2, if_pos (by decide), s_bad, gm_bind_s]
      exact ⟨_, _, h1, h2, rfl, hT0, hX, RFb hF, hA, hI, hC⟩
    | true =>
      obtain ⟨v, hv, rfl⟩ := inr_t hi2 (by omega)
      obtain ⟨c', hc1, hc2⟩ := s_fillC (v := v) (c := m_clashes) (m := m_now_meaning) (al := m_now_alikeTo) hN hw hE hk
      have h1 : fX10_will N m_bads m_nos m_fulls (nI w) m_now_ending m_now_meaning m_now_alikeTo m_clashes (nI k) (nI v) = some (nI (bw (fun s => pce (nI s) (chi k (nI v) en m_now_meaning m_now_alikeTo) w) (2 ^ w)), m_bads, m_nos, m_fulls, c') := by
        unfold fX10_will
        rw [s_fl (nI k) 6 6 rfl (by decide), gm_bind_s, hi1, if_neg (by decide), s_fl (nI v) 8 8 rfl (by decide), gm_bind_s, hi2, if_neg (by decide), hc1, gm_bind_s, gm_let_s, (p2w w (by omega)).1]
        exact s_willL hN hw hc2
      have h2 : fX11_will N n_thrown n_refused n_tongue (nI k) (nI v) = some (nI (bw (fun s => pce (nI s) (chi k (nI v) en m_now_meaning m_now_alikeTo) w) (2 ^ w)), 0, n_refused) := by
        unfold fX11_will
        rw [s_in (B := 6) (nI k) 5 (by decide), gm_bind_s, hi1, if_neg (by decide), s_in (B := 8) (nI v) 7 (by decide), gm_bind_s, hi2, if_neg (by decide)]
        exact s_MwillL hN hrE hw hE hs hk
      exact ⟨_, _, h1, h2, rfl, hT0, hX, hF, hA, hI, hC⟩
