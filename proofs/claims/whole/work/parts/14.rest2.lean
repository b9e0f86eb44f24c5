/-! X10_tongue -/
abbrev wX10_tongue (cI : ClassId) (q q_now q_now_alikeTo q_draft q_images q_kinds q_text q_duel q_cover q_clashes q_tally q_sayableByPair q_chosenPairs q_now_ending q_now_meaning q_now_cost q_now_kind q_now_want q_now_saidAhead q_now_heardWord q_now_heardAnswer : Nat) (m_imagesKept : Int32) (m_bads : Int32) (m_nos : Int32) (m_fulls : Int32) (m_above : Int64) (m_below : Int64) (m_now_words : Int32) (m_now_people : Int32) (m_now_said : Int32) (m_now_undos : Int32) (m_now_heard : Int32) (m_now_alikeTo : Nat → Int32) : va_W := [(q, .inr (10, [.ref q_now, .ref q_draft, .ref q_images, .int m_imagesKept, .ref q_kinds, .ref q_text, .ref q_duel, .ref q_cover, .int m_bads, .int m_nos, .int m_fulls, .long m_above, .long m_below, .ref q_clashes, .ref q_tally, .ref q_sayableByPair, .ref q_chosenPairs])), (q_now, .inr (9, [.ref q_now_ending, .ref q_now_meaning, .ref q_now_cost, .int m_now_words, .ref q_now_alikeTo, .ref q_now_kind, .ref q_now_want, .int m_now_people, .int m_now_said, .ref q_now_saidAhead, .int m_now_undos, .ref q_now_heardWord, .ref q_now_heardAnswer, .int m_now_heard])), (q_now_alikeTo, .inl (cI, 8, .inl m_now_alikeTo))]
abbrev rX10_tongue : Room := { frames := 1, cells := 0, slots := 0, locals := 21 }
def fX10_tongue (N : Nat) (m_now_words : Int32) (m_now_people : Int32) (m_now_said : Int32) (m_now_undos : Int32) (m_now_heard : Int32) (m_now_alikeTo : Nat → Int32)  : Option (Int32 × Int32 × Int32 × Int32 × Int32 × Int32 × (Nat → Int32)) := gm_bind (fX9_empty N m_now_words m_now_people m_now_said m_now_undos m_now_heard m_now_alikeTo) (fun o1 => some (m_now_words, o1.1, o1.2.1, o1.2.2.1, o1.2.2.2.1, o1.2.2.2.2.1, o1.2.2.2.2.2))
set_option maxRecDepth 20000 in
theorem inX10_tongue_X10 : ∀ w ∈ u_ws RX10 TX10 17, w ∈ wsX10_tongue := fun w h => by
  obtain ⟨k, hk, rfl⟩ := List.mem_map.mp h
  have hk2 := List.mem_range.mp hk
  exact List.mem_of_getElem? (i := 14 + k) (by rcases (show k = 0 ∨ k = 1 ∨ k = 2 ∨ k = 3 ∨ k = 4 ∨ k = 5 ∨ k = 6 ∨ k = 7 ∨ k = 8 ∨ k = 9 ∨ k = 10 ∨ k = 11 ∨ k = 12 ∨ k = 13 ∨ k = 14 ∨ k = 15 ∨ k = 16 by omega) with rfl | rfl | rfl | rfl | rfl | rfl | rfl | rfl | rfl | rfl | rfl | rfl | rfl | rfl | rfl | rfl | rfl <;> rfl)
set_option maxRecDepth 20000 in
theorem inX10_tongue_X9 : ∀ w ∈ u_ws RX9 TX9 14, w ∈ wsX10_tongue := fun w h => by
  obtain ⟨k, hk, rfl⟩ := List.mem_map.mp h
  have hk2 := List.mem_range.mp hk
  exact List.mem_of_getElem? (i := 31 + k) (by rcases (show k = 0 ∨ k = 1 ∨ k = 2 ∨ k = 3 ∨ k = 4 ∨ k = 5 ∨ k = 6 ∨ k = 7 ∨ k = 8 ∨ k = 9 ∨ k = 10 ∨ k = 11 ∨ k = 12 ∨ k = 13 by omega) with rfl | rfl | rfl | rfl | rfl | rfl | rfl | rfl | rfl | rfl | rfl | rfl | rfl | rfl <;> rfl)
set_option maxRecDepth 100000 in
set_option maxHeartbeats 4000000 in
theorem mX10_tongue (l : Launch) (dC : Nat → ClassId) (dI : Nat → Nat → Nat) (cI : ClassId) (q q_now q_now_alikeTo q_draft q_images q_kinds q_text q_duel q_cover q_clashes q_tally q_sayableByPair q_chosenPairs q_now_ending q_now_meaning q_now_cost q_now_kind q_now_want q_now_saidAhead q_now_heardWord q_now_heardAnswer : Nat) (m_imagesKept : Int32) (m_bads : Int32) (m_nos : Int32) (m_fulls : Int32) (m_above : Int64) (m_below : Int64) (m_now_words : Int32) (m_now_people : Int32) (m_now_said : Int32) (m_now_undos : Int32) (m_now_heard : Int32) (m_now_alikeTo : Nat → Int32)   {N : Nat} {out : Int32 × Int32 × Int32 × Int32 × Int32 × Int32 × (Nat → Int32)} (h : fX10_tongue N m_now_words m_now_people m_now_said m_now_undos m_now_heard m_now_alikeTo = some out) : gm_Met l yX10_tongue wsX10_tongue rX10_tongue (dC, dI) [(cI, .int)] gm_T [.ref q] (wX10_tongue cI q q_now q_now_alikeTo q_draft q_images q_kinds q_text q_duel q_cover q_clashes q_tally q_sayableByPair q_chosenPairs q_now_ending q_now_meaning q_now_cost q_now_kind q_now_want q_now_saidAhead q_now_heardWord q_now_heardAnswer m_imagesKept m_bads m_nos m_fulls m_above m_below m_now_words m_now_people m_now_said m_now_undos m_now_heard m_now_alikeTo) (some (.int out.1)) (wX10_tongue cI q q_now q_now_alikeTo q_draft q_images q_kinds q_text q_duel q_cover q_clashes q_tally q_sayableByPair q_chosenPairs q_now_ending q_now_meaning q_now_cost q_now_kind q_now_want q_now_saidAhead q_now_heardWord q_now_heardAnswer m_imagesKept m_bads m_nos m_fulls m_above m_below out.2.1 out.2.2.1 out.2.2.2.1 out.2.2.2.2.1 out.2.2.2.2.2.1 out.2.2.2.2.2.2) := by
  refine gm_ofW (cc := cX10_tongue) (maxL := 2) (ret := (some .int)) (by decide +kernel) rfl (Nat.le_of_ble_eq_true rfl) ?_
  intro p e s m below meth c A C0 hH ls hl
  generalize ([.ref q] : List Value).toArray = args at C0 ⊢
  have hl : lv_has ls 2 [(0, .ref q)] := hl
  generalize s.heap = H at hH ⊢
  generalize ([] : List Loc) = locs at hH ⊢
  obtain ⟨hx, hb, hml, hr, hown, hts, hA, hK, hX, hlocks⟩ := id C0
  unfold fX10_tongue at h
  refine lv_aload_n hx hb dX10_tongue_0 rfl (lv_at hl 0 rfl) ?_
  refine gm_get (ci := 10) C0 hH inX10_tongue_X10 0 0 1 rfl rfl (by decide) rfl rfl dX10_tongue_1 ?_
  refine gm_get (ci := 9) C0 hH inX10_tongue_X9 1 3 2 rfl rfl (by decide) rfl rfl dX10_tongue_4 ?_
  refine lv_istore_n (lv' := [(1, .int m_now_words), (0, .ref q)]) hx hb dX10_tongue_7 rfl hl (by decide) rfl (fun ls hl => ?_)
  refine lv_aload_n hx hb dX10_tongue_8 rfl (lv_at hl 1 rfl) ?_
  refine gm_get (ci := 10) C0 hH inX10_tongue_X10 0 0 1 rfl rfl (by decide) rfl rfl dX10_tongue_9 ?_
  obtain ⟨o1, ho1, h⟩ := gm_bind_e h
  refine gm_callV (As := []) (rest := []) (n := 0) (ci := 9) (q0 := 1) C0 hH (mX9_empty l dC dI cI q_now q_now_alikeTo q_now_ending q_now_meaning q_now_cost q_now_kind q_now_want q_now_saidAhead q_now_heardWord q_now_heardAnswer m_now_words m_now_people m_now_said m_now_undos m_now_heard m_now_alikeTo    ho1) gX10_tongue_X9_empty rfl (by decide +kernel) ⟨rfl, rfl, Nat.le_of_ble_eq_true rfl, Nat.le_of_ble_eq_true rfl⟩ gm_T_ok (fun _ => trivial) [1, 2] rfl rfl rfl [0] rfl rfl rfl rfl hl.1 rfl (Nat.le_of_ble_eq_true rfl) dX10_tongue_12 ⟨Nat.zero_le _, Nat.zero_le _⟩ (fun H locs hH => ?_)
  have hH : gm_H (dC, dI) A s (wX10_tongue cI q q_now q_now_alikeTo q_draft q_images q_kinds q_text q_duel q_cover q_clashes q_tally q_sayableByPair q_chosenPairs q_now_ending q_now_meaning q_now_cost q_now_kind q_now_want q_now_saidAhead q_now_heardWord q_now_heardAnswer m_imagesKept m_bads m_nos m_fulls m_above m_below o1.1 o1.2.1 o1.2.2.1 o1.2.2.2.1 o1.2.2.2.2.1 o1.2.2.2.2.2) H locs := hH
  refine lv_iload_n hx hb dX10_tongue_15 rfl (lv_at hl 0 rfl) ?_
  obtain rfl := Option.some.inj h
  exact gm_iret C0 hH dX10_tongue_16

/-! X10_fits -/
abbrev rX10_fits : Room := { frames := 0, cells := 0, slots := 0, locals := 0 }
def fX10_fits (N : Nat)  (x0 : Int32) (x1 : Int32) : Option (Int32) := (if x0 < 0 then some (0) else (if x1 ≤ x0 then some (0) else some (1)))
set_option maxRecDepth 100000 in
set_option maxHeartbeats 4000000 in
theorem mX10_fits (l : Launch) (dC : Nat → ClassId) (dI : Nat → Nat → Nat)  (x0 : Int32) (x1 : Int32)  {N : Nat} {out : Int32} (h : fX10_fits N x0 x1 = some out) : gm_Met l yX10_fits wsX10_fits rX10_fits (dC, dI) [] gm_T [.int x0, .int x1] ([] : va_W) (some (.int out)) ([] : va_W) := by
  refine gm_ofW (cc := cX10_fits) (maxL := 2) (ret := (some .boolean)) (by decide +kernel) rfl (Nat.le_of_ble_eq_true rfl) ?_
  intro p e s m below meth c A C0 hH ls hl
  generalize ([.int x0, .int x1] : List Value).toArray = args at C0 ⊢
  have hl : lv_has ls 2 [(0, .int x0), (1, .int x1)] := hl
  generalize s.heap = H at hH ⊢
  generalize ([] : List Loc) = locs at hH ⊢
  obtain ⟨hx, hb, hml, hr, hown, hts, hA, hK, hX, hlocks⟩ := id C0
  unfold fX10_fits at h
  refine lv_iload_n hx hb dX10_fits_0 rfl (lv_at hl 0 rfl) ?_
  refine lv_if_lt (tgt := 13) hx hb dX10_fits_1 (by decide) (fun hc1 => ?_) (fun hc1 => ?_)
  · replace h := gm_pos hc1 h
    refine lv_iconst (v := 0) hx hb dX10_fits_13 (by decide) ?_
    obtain rfl := Option.some.inj h
    exact gm_zret C0 hH (show narrow .boolean (.int 0) = .int 0 by decide) dX10_fits_14
  · replace h := gm_neg hc1 h
    refine lv_iload_n hx hb dX10_fits_4 rfl (lv_at hl 0 rfl) ?_
    refine lv_iload_n hx hb dX10_fits_5 rfl (lv_at hl 1 rfl) ?_
    refine lv_icmp_ge (tgt := 13) hx hb dX10_fits_6 (by decide) (fun hc2 => ?_) (fun hc2 => ?_)
    · replace h := gm_pos hc2 h
      refine lv_iconst (v := 0) hx hb dX10_fits_13 (by decide) ?_
      obtain rfl := Option.some.inj h
      exact gm_zret C0 hH (show narrow .boolean (.int 0) = .int 0 by decide) dX10_fits_14
    · replace h := gm_neg hc2 h
      refine lv_iconst (v := 1) hx hb dX10_fits_9 (by decide) ?_
      refine lv_goto (tgt := 14) hx hb dX10_fits_10 (by decide) ?_
      obtain rfl := Option.some.inj h
      exact gm_zret C0 hH (show narrow .boolean (.int 1) = .int 1 by decide) dX10_fits_14

/-! X10_refuse -/
abbrev wX10_refuse (q q_now q_draft q_images q_kinds q_text q_duel q_cover q_clashes q_tally q_sayableByPair q_chosenPairs : Nat) (m_imagesKept : Int32) (m_bads : Int32) (m_nos : Int32) (m_fulls : Int32) (m_above : Int64) (m_below : Int64) : va_W := [(q, .inr (10, [.ref q_now, .ref q_draft, .ref q_images, .int m_imagesKept, .ref q_kinds, .ref q_text, .ref q_duel, .ref q_cover, .int m_bads, .int m_nos, .int m_fulls, .long m_above, .long m_below, .ref q_clashes, .ref q_tally, .ref q_sayableByPair, .ref q_chosenPairs]))]
abbrev rX10_refuse : Room := { frames := 0, cells := 0, slots := 0, locals := 0 }
def fX10_refuse (N : Nat) (m_bads : Int32) (m_nos : Int32) (m_fulls : Int32) (x1 : Int32) : Option (Int32 × Int32 × Int32 × Int32) := (if x1 = (-2) then gm_let ((m_bads + 1) : Int32) (fun (v5 : Int32) => some (x1, v5, m_nos, m_fulls)) else (if x1 = (-3) then gm_let ((m_nos + 1) : Int32) (fun (v4 : Int32) => some (x1, m_bads, v4, m_fulls)) else gm_let ((m_fulls + 1) : Int32) (fun (v3 : Int32) => some (x1, m_bads, m_nos, v3))))
set_option maxRecDepth 20000 in
theorem inX10_refuse_X10 : ∀ w ∈ u_ws RX10 TX10 17, w ∈ wsX10_refuse := fun w h => by
  obtain ⟨k, hk, rfl⟩ := List.mem_map.mp h
  have hk2 := List.mem_range.mp hk
  exact List.mem_of_getElem? (i := 4 + k) (by rcases (show k = 0 ∨ k = 1 ∨ k = 2 ∨ k = 3 ∨ k = 4 ∨ k = 5 ∨ k = 6 ∨ k = 7 ∨ k = 8 ∨ k = 9 ∨ k = 10 ∨ k = 11 ∨ k = 12 ∨ k = 13 ∨ k = 14 ∨ k = 15 ∨ k = 16 by omega) with rfl | rfl | rfl | rfl | rfl | rfl | rfl | rfl | rfl | rfl | rfl | rfl | rfl | rfl | rfl | rfl | rfl <;> rfl)
set_option maxRecDepth 100000 in
set_option maxHeartbeats 4000000 in
theorem mX10_refuse (l : Launch) (dC : Nat → ClassId) (dI : Nat → Nat → Nat) (q q_now q_draft q_images q_kinds q_text q_duel q_cover q_clashes q_tally q_sayableByPair q_chosenPairs : Nat) (m_imagesKept : Int32) (m_bads : Int32) (m_nos : Int32) (m_fulls : Int32) (m_above : Int64) (m_below : Int64) (x1 : Int32)  {N : Nat} {out : Int32 × Int32 × Int32 × Int32} (h : fX10_refuse N m_bads m_nos m_fulls x1 = some out) : gm_Met l yX10_refuse wsX10_refuse rX10_refuse (dC, dI) [] gm_T [.ref q, .int x1] (wX10_refuse  q q_now q_draft q_images q_kinds q_text q_duel q_cover q_clashes q_tally q_sayableByPair q_chosenPairs m_imagesKept m_bads m_nos m_fulls m_above m_below) (some (.int out.1)) (wX10_refuse  q q_now q_draft q_images q_kinds q_text q_duel q_cover q_clashes q_tally q_sayableByPair q_chosenPairs m_imagesKept out.2.1 out.2.2.1 out.2.2.2 m_above m_below) := by
  refine gm_ofW (cc := cX10_refuse) (maxL := 2) (ret := (some .int)) (by decide +kernel) rfl (Nat.le_of_ble_eq_true rfl) ?_
  intro p e s m below meth c A C0 hH ls hl
  generalize ([.ref q, .int x1] : List Value).toArray = args at C0 ⊢
  have hl : lv_has ls 2 [(0, .ref q), (1, .int x1)] := hl
  generalize s.heap = H at hH ⊢
  generalize ([] : List Loc) = locs at hH ⊢
  obtain ⟨hx, hb, hml, hr, hown, hts, hA, hK, hX, hlocks⟩ := id C0
  unfold fX10_refuse at h
  refine lv_iload_n hx hb dX10_refuse_0 rfl (lv_at hl 1 rfl) ?_
  refine lv_bipush (v := (-2)) hx hb dX10_refuse_1 (by decide) ?_
  refine lv_icmp_ne (tgt := 19) hx hb dX10_refuse_3 (by decide) (fun hc1 => ?_) (fun hc1 => ?_)
  · replace h := gm_neg hc1 h
    refine lv_iload_n hx hb dX10_refuse_19 rfl (lv_at hl 1 rfl) ?_
    refine lv_bipush (v := (-3)) hx hb dX10_refuse_20 (by decide) ?_
    refine lv_icmp_ne (tgt := 38) hx hb dX10_refuse_22 (by decide) (fun hc2 => ?_) (fun hc2 => ?_)
    · replace h := gm_neg hc2 h
      refine lv_aload_n hx hb dX10_refuse_38 rfl (lv_at hl 0 rfl) ?_
      refine lv_dup hx hb dX10_refuse_39 rfl ?_
      refine gm_get (ci := 10) C0 hH inX10_refuse_X10 0 10 3 rfl rfl (by decide) rfl rfl dX10_refuse_40 ?_
      refine lv_iconst (v := 1) hx hb dX10_refuse_43 (by decide) ?_
      refine lv_iadd hx hb dX10_refuse_44 ?_
      refine lv_topi (fun v3 ev3 => ?_)
      replace h := gm_let_e ev3 h
      refine gm_putf (ci := 10) C0 hH inX10_refuse_X10 tyX10_ok nmX10 0 10 3 rfl rfl (by decide) rfl rfl rfl rfl rfl (Nat.le_of_ble_eq_true rfl) dX10_refuse_45 (fun H locs hH => ?_)
      have hH : gm_H (dC, dI) A s (wX10_refuse  q q_now q_draft q_images q_kinds q_text q_duel q_cover q_clashes q_tally q_sayableByPair q_chosenPairs m_imagesKept m_bads m_nos v3 m_above m_below) H locs := hH
      refine lv_iload_n hx hb dX10_refuse_48 rfl (lv_at hl 1 rfl) ?_
      obtain rfl := Option.some.inj h
      exact gm_iret C0 hH dX10_refuse_49
    · replace h := gm_pos hc2 h
      refine lv_aload_n hx hb dX10_refuse_25 rfl (lv_at hl 0 rfl) ?_
      refine lv_dup hx hb dX10_refuse_26 rfl ?_
      refine gm_get (ci := 10) C0 hH inX10_refuse_X10 0 9 2 rfl rfl (by decide) rfl rfl dX10_refuse_27 ?_
      refine lv_iconst (v := 1) hx hb dX10_refuse_30 (by decide) ?_
      refine lv_iadd hx hb dX10_refuse_31 ?_
      refine lv_topi (fun v4 ev4 => ?_)
      replace h := gm_let_e ev4 h
      refine gm_putf (ci := 10) C0 hH inX10_refuse_X10 tyX10_ok nmX10 0 9 2 rfl rfl (by decide) rfl rfl rfl rfl rfl (Nat.le_of_ble_eq_true rfl) dX10_refuse_32 (fun H locs hH => ?_)
      have hH : gm_H (dC, dI) A s (wX10_refuse  q q_now q_draft q_images q_kinds q_text q_duel q_cover q_clashes q_tally q_sayableByPair q_chosenPairs m_imagesKept m_bads v4 m_fulls m_above m_below) H locs := hH
      refine lv_goto (tgt := 48) hx hb dX10_refuse_35 (by decide) ?_
      refine lv_iload_n hx hb dX10_refuse_48 rfl (lv_at hl 1 rfl) ?_
      obtain rfl := Option.some.inj h
      exact gm_iret C0 hH dX10_refuse_49
  · replace h := gm_pos hc1 h
    refine lv_aload_n hx hb dX10_refuse_6 rfl (lv_at hl 0 rfl) ?_
    refine lv_dup hx hb dX10_refuse_7 rfl ?_
    refine gm_get (ci := 10) C0 hH inX10_refuse_X10 0 8 1 rfl rfl (by decide) rfl rfl dX10_refuse_8 ?_
    refine lv_iconst (v := 1) hx hb dX10_refuse_11 (by decide) ?_
    refine lv_iadd hx hb dX10_refuse_12 ?_
    refine lv_topi (fun v5 ev5 => ?_)
    replace h := gm_let_e ev5 h
    refine gm_putf (ci := 10) C0 hH inX10_refuse_X10 tyX10_ok nmX10 0 8 1 rfl rfl (by decide) rfl rfl rfl rfl rfl (Nat.le_of_ble_eq_true rfl) dX10_refuse_13 (fun H locs hH => ?_)
    have hH : gm_H (dC, dI) A s (wX10_refuse  q q_now q_draft q_images q_kinds q_text q_duel q_cover q_clashes q_tally q_sayableByPair q_chosenPairs m_imagesKept v5 m_nos m_fulls m_above m_below) H locs := hH
    refine lv_goto (tgt := 48) hx hb dX10_refuse_16 (by decide) ?_
    refine lv_iload_n hx hb dX10_refuse_48 rfl (lv_at hl 1 rfl) ?_
    obtain rfl := Option.some.inj h
    exact gm_iret C0 hH dX10_refuse_49

/-! X10_word -/
abbrev wX10_word (cI : ClassId) (q q_now q_now_ending q_now_meaning q_now_cost q_draft q_images q_kinds q_text q_duel q_cover q_clashes q_tally q_sayableByPair q_chosenPairs q_now_alikeTo q_now_kind q_now_want q_now_saidAhead q_now_heardWord q_now_heardAnswer : Nat) (m_imagesKept : Int32) (m_bads : Int32) (m_nos : Int32) (m_fulls : Int32) (m_above : Int64) (m_below : Int64) (m_now_words : Int32) (m_now_people : Int32) (m_now_said : Int32) (m_now_undos : Int32) (m_now_heard : Int32) (m_now_ending : Nat → Int32) (m_now_meaning : Nat → Int32) (m_now_cost : Nat → Int32) : va_W := [(q, .inr (10, [.ref q_now, .ref q_draft, .ref q_images, .int m_imagesKept, .ref q_kinds, .ref q_text, .ref q_duel, .ref q_cover, .int m_bads, .int m_nos, .int m_fulls, .long m_above, .long m_below, .ref q_clashes, .ref q_tally, .ref q_sayableByPair, .ref q_chosenPairs])), (q_now, .inr (9, [.ref q_now_ending, .ref q_now_meaning, .ref q_now_cost, .int m_now_words, .ref q_now_alikeTo, .ref q_now_kind, .ref q_now_want, .int m_now_people, .int m_now_said, .ref q_now_saidAhead, .int m_now_undos, .ref q_now_heardWord, .ref q_now_heardAnswer, .int m_now_heard])), (q_now_ending, .inl (cI, 10, .inl m_now_ending)), (q_now_meaning, .inl (cI, 10, .inl m_now_meaning)), (q_now_cost, .inl (cI, 10, .inl m_now_cost))]
abbrev rX10_word : Room := { frames := 1, cells := 0, slots := 0, locals := 23 }
def fX10_word_b27 (N : Nat)  (m_bads : Int32) (m_nos : Int32) (m_fulls : Int32) (m_now_words : Int32) (m_now_undos : Int32) (m_now_ending : Nat → Int32) (m_now_meaning : Nat → Int32) (m_now_cost : Nat → Int32) : Option (Int32 × Int32 × Int32 × Int32 × Int32 × Int32 × (Nat → Int32) × (Nat → Int32) × (Nat → Int32)) := gm_bind (fX10_refuse N m_bads m_nos m_fulls ((-2))) (fun o3 => some (o3.1, o3.2.1, o3.2.2.1, o3.2.2.2, m_now_words, m_now_undos, m_now_ending, m_now_meaning, m_now_cost))
def fX10_word (N : Nat) (m_bads : Int32) (m_nos : Int32) (m_fulls : Int32) (m_now_words : Int32) (m_now_undos : Int32) (m_now_ending : Nat → Int32) (m_now_meaning : Nat → Int32) (m_now_cost : Nat → Int32) (x1 : Int32) (x2 : Int32) (x3 : Int32) : Option (Int32 × Int32 × Int32 × Int32 × Int32 × Int32 × (Nat → Int32) × (Nat → Int32) × (Nat → Int32)) := gm_bind (fX10_fits N x1 8) (fun o1 => (if o1 = 0 then (fX10_word_b27 N  m_bads m_nos m_fulls m_now_words m_now_undos m_now_ending m_now_meaning m_now_cost) else gm_bind (fX10_fits N x2 8) (fun o4 => (if o4 = 0 then (fX10_word_b27 N  m_bads m_nos m_fulls m_now_words m_now_undos m_now_ending m_now_meaning m_now_cost) else gm_bind (fX10_fits N x3 21) (fun o6 => (if o6 = 0 then (fX10_word_b27 N  m_bads m_nos m_fulls m_now_words m_now_undos m_now_ending m_now_meaning m_now_cost) else (if m_now_words < 10 then gm_bind (fX9_addWord N m_now_words m_now_undos m_now_ending m_now_meaning m_now_cost x1 x2 x3) (fun o9 => some (o9.1, m_bads, m_nos, m_fulls, o9.2.1, o9.2.2.1, o9.2.2.2.1, o9.2.2.2.2.1, o9.2.2.2.2.2)) else gm_bind (fX10_refuse N m_bads m_nos m_fulls ((-4))) (fun o10 => some (o10.1, o10.2.1, o10.2.2.1, o10.2.2.2, m_now_words, m_now_undos, m_now_ending, m_now_meaning, m_now_cost)))))))))
set_option maxRecDepth 20000 in
theorem inX10_word_X10 : ∀ w ∈ u_ws RX10 TX10 17, w ∈ wsX10_word := fun w h => by
  obtain ⟨k, hk, rfl⟩ := List.mem_map.mp h
  have hk2 := List.mem_range.mp hk
  exact List.mem_of_getElem? (i := 24 + k) (by rcases (show k = 0 ∨ k = 1 ∨ k = 2 ∨ k = 3 ∨ k = 4 ∨ k = 5 ∨ k = 6 ∨ k = 7 ∨ k = 8 ∨ k = 9 ∨ k = 10 ∨ k = 11 ∨ k = 12 ∨ k = 13 ∨ k = 14 ∨ k = 15 ∨ k = 16 by omega) with rfl | rfl | rfl | rfl | rfl | rfl | rfl | rfl | rfl | rfl | rfl | rfl | rfl | rfl | rfl | rfl | rfl <;> rfl)
set_option maxRecDepth 20000 in
theorem inX10_word_X9 : ∀ w ∈ u_ws RX9 TX9 14, w ∈ wsX10_word := fun w h => by
  obtain ⟨k, hk, rfl⟩ := List.mem_map.mp h
  have hk2 := List.mem_range.mp hk
  exact List.mem_of_getElem? (i := 41 + k) (by rcases (show k = 0 ∨ k = 1 ∨ k = 2 ∨ k = 3 ∨ k = 4 ∨ k = 5 ∨ k = 6 ∨ k = 7 ∨ k = 8 ∨ k = 9 ∨ k = 10 ∨ k = 11 ∨ k = 12 ∨ k = 13 by omega) with rfl | rfl | rfl | rfl | rfl | rfl | rfl | rfl | rfl | rfl | rfl | rfl | rfl | rfl <;> rfl)
set_option maxRecDepth 100000 in
set_option maxHeartbeats 4000000 in
theorem tX10_word_b27 {p : Program} {l : Launch} {e : Env} {s : State} {m : MethodId} {args : Array Value} {below : List Frame} {meth : Method} {c : Code} {A : Nat → Prop} {dC : Nat → ClassId} {dI : Nat → Nat → Nat} {cI : ClassId} {q q_now q_now_ending q_now_meaning q_now_cost q_draft q_images q_kinds q_text q_duel q_cover q_clashes q_tally q_sayableByPair q_chosenPairs q_now_alikeTo q_now_kind q_now_want q_now_saidAhead q_now_heardWord q_now_heardAnswer : Nat} {m_imagesKept : Int32} {m_bads : Int32} {m_nos : Int32} {m_fulls : Int32} {m_above : Int64} {m_below : Int64} {m_now_words : Int32} {m_now_people : Int32} {m_now_said : Int32} {m_now_undos : Int32} {m_now_heard : Int32} {m_now_ending : Nat → Int32} {m_now_meaning : Nat → Int32} {m_now_cost : Nat → Int32} (C0 : gm_C p s m args meth c (dC, dI) [(cI, .int)] A gm_T RX10 cX10_word 4 (some .int) wsX10_word) {N : Nat} {out : Int32 × Int32 × Int32 × Int32 × Int32 × Int32 × (Nat → Int32) × (Nat → Int32) × (Nat → Int32)}    {H : Heap} {locs : List Loc} {ls : Array Slot} (h : fX10_word_b27 N  m_bads m_nos m_fulls m_now_words m_now_undos m_now_ending m_now_meaning m_now_cost = some out) (hH : gm_H (dC, dI) A s (wX10_word cI q q_now q_now_ending q_now_meaning q_now_cost q_draft q_images q_kinds q_text q_duel q_cover q_clashes q_tally q_sayableByPair q_chosenPairs q_now_alikeTo q_now_kind q_now_want q_now_saidAhead q_now_heardWord q_now_heardAnswer m_imagesKept m_bads m_nos m_fulls m_above m_below m_now_words m_now_people m_now_said m_now_undos m_now_heard m_now_ending m_now_meaning m_now_cost) H locs) (hl : lv_has ls 4 [(0, .ref q)]) : W p l e rX10_word s m args below meth c H locs 0 0 (MQ below (gm_Q (dC, dI) [(cI, .int)] A (some (.int out.1)) (wX10_word cI q q_now q_now_ending q_now_meaning q_now_cost q_draft q_images q_kinds q_text q_duel q_cover q_clashes q_tally q_sayableByPair q_chosenPairs q_now_alikeTo q_now_kind q_now_want q_now_saidAhead q_now_heardWord q_now_heardAnswer m_imagesKept out.2.1 out.2.2.1 out.2.2.2.1 m_above m_below out.2.2.2.2.1 m_now_people m_now_said out.2.2.2.2.2.1 m_now_heard out.2.2.2.2.2.2.1 out.2.2.2.2.2.2.2.1 out.2.2.2.2.2.2.2.2)) args s 0 0 A) (F0 m 27 ls []) := by
  obtain ⟨hx, hb, hml, hr, hown, hts, hA, hK, hX, hlocks⟩ := id C0
  unfold fX10_word_b27 at h
  refine lv_aload_n hx hb dX10_word_27 rfl (lv_at hl 0 rfl) ?_
  refine lv_bipush (v := (-2)) hx hb dX10_word_28 (by decide) ?_
  obtain ⟨o3, ho3, h⟩ := gm_bind_e h
  refine gm_callV (As := [.int (-2)]) (rest := []) (n := 1) (ci := 10) (q0 := 0) C0 hH (mX10_refuse l dC dI  q q_now q_draft q_images q_kinds q_text q_duel q_cover q_clashes q_tally q_sayableByPair q_chosenPairs m_imagesKept m_bads m_nos m_fulls m_above m_below ((-2))   ho3) gX10_word_X10_refuse rfl (by decide +kernel) ⟨rfl, rfl, Nat.le_of_ble_eq_true rfl, Nat.le_of_ble_eq_true rfl⟩ gm_T_ok (fun _ => trivial) [0] rfl rfl rfl [] rfl rfl rfl rfl hl.1 rfl (Nat.le_of_ble_eq_true rfl) dX10_word_30 ⟨Nat.zero_le _, Nat.zero_le _⟩ (fun H locs hH => ?_)
  have hH : gm_H (dC, dI) A s (wX10_word cI q q_now q_now_ending q_now_meaning q_now_cost q_draft q_images q_kinds q_text q_duel q_cover q_clashes q_tally q_sayableByPair q_chosenPairs q_now_alikeTo q_now_kind q_now_want q_now_saidAhead q_now_heardWord q_now_heardAnswer m_imagesKept o3.2.1 o3.2.2.1 o3.2.2.2 m_above m_below m_now_words m_now_people m_now_said m_now_undos m_now_heard m_now_ending m_now_meaning m_now_cost) H locs := hH
  obtain rfl := Option.some.inj h
  exact gm_iret C0 hH dX10_word_33
set_option maxRecDepth 100000 in
set_option maxHeartbeats 4000000 in
theorem mX10_word (l : Launch) (dC : Nat → ClassId) (dI : Nat → Nat → Nat) (cI : ClassId) (q q_now q_now_ending q_now_meaning q_now_cost q_draft q_images q_kinds q_text q_duel q_cover q_clashes q_tally q_sayableByPair q_chosenPairs q_now_alikeTo q_now_kind q_now_want q_now_saidAhead q_now_heardWord q_now_heardAnswer : Nat) (m_imagesKept : Int32) (m_bads : Int32) (m_nos : Int32) (m_fulls : Int32) (m_above : Int64) (m_below : Int64) (m_now_words : Int32) (m_now_people : Int32) (m_now_said : Int32) (m_now_undos : Int32) (m_now_heard : Int32) (m_now_ending : Nat → Int32) (m_now_meaning : Nat → Int32) (m_now_cost : Nat → Int32) (x1 : Int32) (x2 : Int32) (x3 : Int32)  {N : Nat} {out : Int32 × Int32 × Int32 × Int32 × Int32 × Int32 × (Nat → Int32) × (Nat → Int32) × (Nat → Int32)} (h : fX10_word N m_bads m_nos m_fulls m_now_words m_now_undos m_now_ending m_now_meaning m_now_cost x1 x2 x3 = some out) : gm_Met l yX10_word wsX10_word rX10_word (dC, dI) [(cI, .int)] gm_T [.ref q, .int x1, .int x2, .int x3] (wX10_word cI q q_now q_now_ending q_now_meaning q_now_cost q_draft q_images q_kinds q_text q_duel q_cover q_clashes q_tally q_sayableByPair q_chosenPairs q_now_alikeTo q_now_kind q_now_want q_now_saidAhead q_now_heardWord q_now_heardAnswer m_imagesKept m_bads m_nos m_fulls m_above m_below m_now_words m_now_people m_now_said m_now_undos m_now_heard m_now_ending m_now_meaning m_now_cost) (some (.int out.1)) (wX10_word cI q q_now q_now_ending q_now_meaning q_now_cost q_draft q_images q_kinds q_text q_duel q_cover q_clashes q_tally q_sayableByPair q_chosenPairs q_now_alikeTo q_now_kind q_now_want q_now_saidAhead q_now_heardWord q_now_heardAnswer m_imagesKept out.2.1 out.2.2.1 out.2.2.2.1 m_above m_below out.2.2.2.2.1 m_now_people m_now_said out.2.2.2.2.2.1 m_now_heard out.2.2.2.2.2.2.1 out.2.2.2.2.2.2.2.1 out.2.2.2.2.2.2.2.2) := by
  refine gm_ofW (cc := cX10_word) (maxL := 4) (ret := (some .int)) (by decide +kernel) rfl (Nat.le_of_ble_eq_true rfl) ?_
  intro p e s m below meth c A C0 hH ls hl
  generalize ([.ref q, .int x1, .int x2, .int x3] : List Value).toArray = args at C0 ⊢
  have hl : lv_has ls 4 [(0, .ref q), (1, .int x1), (2, .int x2), (3, .int x3)] := hl
  generalize s.heap = H at hH ⊢
  generalize ([] : List Loc) = locs at hH ⊢
  obtain ⟨hx, hb, hml, hr, hown, hts, hA, hK, hX, hlocks⟩ := id C0
  unfold fX10_word at h
  refine lv_iload_n hx hb dX10_word_0 rfl (lv_at hl 1 rfl) ?_
  refine lv_bipush (v := 8) hx hb dX10_word_1 (by decide) ?_
  obtain ⟨o1, ho1, h⟩ := gm_bind_e h
  refine gm_callS (As := [.int x1, .int 8]) (rest := []) (n := 2) C0 hH (mX10_fits l dC dI    x1 8   ho1) gX10_word_X10_fits rfl (by decide +kernel) ⟨rfl, rfl, Nat.le_of_ble_eq_true rfl, Nat.le_of_ble_eq_true rfl⟩ gm_T_ok (fun _ => trivial) [] rfl rfl rfl [] rfl rfl hl.1 rfl (Nat.le_of_ble_eq_true rfl) dX10_word_3 ⟨Nat.zero_le _, Nat.zero_le _⟩ (fun H locs hH => ?_)
  have hH : gm_H (dC, dI) A s (wX10_word cI q q_now q_now_ending q_now_meaning q_now_cost q_draft q_images q_kinds q_text q_duel q_cover q_clashes q_tally q_sayableByPair q_chosenPairs q_now_alikeTo q_now_kind q_now_want q_now_saidAhead q_now_heardWord q_now_heardAnswer m_imagesKept m_bads m_nos m_fulls m_above m_below m_now_words m_now_people m_now_said m_now_undos m_now_heard m_now_ending m_now_meaning m_now_cost) H locs := hH
  refine lv_if_eq (tgt := 27) hx hb dX10_word_6 (by decide) (fun hc2 => ?_) (fun hc2 => ?_)
  · replace h := gm_pos hc2 h
    exact tX10_word_b27 C0  h hH (lv_sub hl [0] rfl)
  · replace h := gm_neg hc2 h
    refine lv_iload_n hx hb dX10_word_9 rfl (lv_at hl 2 rfl) ?_
    refine lv_bipush (v := 8) hx hb dX10_word_10 (by decide) ?_
    obtain ⟨o4, ho4, h⟩ := gm_bind_e h
    refine gm_callS (As := [.int x2, .int 8]) (rest := []) (n := 2) C0 hH (mX10_fits l dC dI    x2 8   ho4) gX10_word_X10_fits rfl (by decide +kernel) ⟨rfl, rfl, Nat.le_of_ble_eq_true rfl, Nat.le_of_ble_eq_true rfl⟩ gm_T_ok (fun _ => trivial) [] rfl rfl rfl [] rfl rfl hl.1 rfl (Nat.le_of_ble_eq_true rfl) dX10_word_12 ⟨Nat.zero_le _, Nat.zero_le _⟩ (fun H locs hH => ?_)
    have hH : gm_H (dC, dI) A s (wX10_word cI q q_now q_now_ending q_now_meaning q_now_cost q_draft q_images q_kinds q_text q_duel q_cover q_clashes q_tally q_sayableByPair q_chosenPairs q_now_alikeTo q_now_kind q_now_want q_now_saidAhead q_now_heardWord q_now_heardAnswer m_imagesKept m_bads m_nos m_fulls m_above m_below m_now_words m_now_people m_now_said m_now_undos m_now_heard m_now_ending m_now_meaning m_now_cost) H locs := hH
    refine lv_if_eq (tgt := 27) hx hb dX10_word_15 (by decide) (fun hc5 => ?_) (fun hc5 => ?_)
    · replace h := gm_pos hc5 h
      exact tX10_word_b27 C0  h hH (lv_sub hl [0] rfl)
    · replace h := gm_neg hc5 h
      refine lv_iload_n hx hb dX10_word_18 rfl (lv_at hl 3 rfl) ?_
      refine lv_bipush (v := 21) hx hb dX10_word_19 (by decide) ?_
      obtain ⟨o6, ho6, h⟩ := gm_bind_e h
      refine gm_callS (As := [.int x3, .int 21]) (rest := []) (n := 2) C0 hH (mX10_fits l dC dI    x3 21   ho6) gX10_word_X10_fits rfl (by decide +kernel) ⟨rfl, rfl, Nat.le_of_ble_eq_true rfl, Nat.le_of_ble_eq_true rfl⟩ gm_T_ok (fun _ => trivial) [] rfl rfl rfl [] rfl rfl hl.1 rfl (Nat.le_of_ble_eq_true rfl) dX10_word_21 ⟨Nat.zero_le _, Nat.zero_le _⟩ (fun H locs hH => ?_)
      have hH : gm_H (dC, dI) A s (wX10_word cI q q_now q_now_ending q_now_meaning q_now_cost q_draft q_images q_kinds q_text q_duel q_cover q_clashes q_tally q_sayableByPair q_chosenPairs q_now_alikeTo q_now_kind q_now_want q_now_saidAhead q_now_heardWord q_now_heardAnswer m_imagesKept m_bads m_nos m_fulls m_above m_below m_now_words m_now_people m_now_said m_now_undos m_now_heard m_now_ending m_now_meaning m_now_cost) H locs := hH
      refine lv_if_ne (tgt := 34) hx hb dX10_word_24 (by decide) (fun hc7 => ?_) (fun hc7 => ?_)
      · replace h := gm_neg hc7 h
        refine lv_aload_n hx hb dX10_word_34 rfl (lv_at hl 0 rfl) ?_
        refine gm_get (ci := 10) C0 hH inX10_word_X10 0 0 1 rfl rfl (by decide) rfl rfl dX10_word_35 ?_
        refine gm_get (ci := 9) C0 hH inX10_word_X9 1 3 2 rfl rfl (by decide) rfl rfl dX10_word_38 ?_
        refine lv_bipush (v := 10) hx hb dX10_word_41 (by decide) ?_
        refine lv_icmp_lt (tgt := 53) hx hb dX10_word_43 (by decide) (fun hc8 => ?_) (fun hc8 => ?_)
        · replace h := gm_pos hc8 h
          refine lv_aload_n hx hb dX10_word_53 rfl (lv_at hl 0 rfl) ?_
          refine gm_get (ci := 10) C0 hH inX10_word_X10 0 0 1 rfl rfl (by decide) rfl rfl dX10_word_54 ?_
          refine lv_iload_n hx hb dX10_word_57 rfl (lv_at hl 1 rfl) ?_
          refine lv_iload_n hx hb dX10_word_58 rfl (lv_at hl 2 rfl) ?_
          refine lv_iload_n hx hb dX10_word_59 rfl (lv_at hl 3 rfl) ?_
          obtain ⟨o9, ho9, h⟩ := gm_bind_e h
          refine gm_callV (As := [.int x1, .int x2, .int x3]) (rest := []) (n := 3) (ci := 9) (q0 := 1) C0 hH (mX9_addWord l dC dI cI q_now q_now_ending q_now_meaning q_now_cost q_now_alikeTo q_now_kind q_now_want q_now_saidAhead q_now_heardWord q_now_heardAnswer m_now_words m_now_people m_now_said m_now_undos m_now_heard m_now_ending m_now_meaning m_now_cost x1 x2 x3   ho9) gX10_word_X9_addWord rfl (by decide +kernel) ⟨rfl, rfl, Nat.le_of_ble_eq_true rfl, Nat.le_of_ble_eq_true rfl⟩ gm_T_ok (fun _ => trivial) [1, 2, 3, 4] rfl rfl rfl [0] rfl rfl rfl rfl hl.1 rfl (Nat.le_of_ble_eq_true rfl) dX10_word_60 ⟨Nat.zero_le _, Nat.zero_le _⟩ (fun H locs hH => ?_)
          simp only [wX10_word, wX9_addWord, gm_sets, List.set_cons_succ, List.set_cons_zero] at hH
          have hH : gm_H (dC, dI) A s (wX10_word cI q q_now q_now_ending q_now_meaning q_now_cost q_draft q_images q_kinds q_text q_duel q_cover q_clashes q_tally q_sayableByPair q_chosenPairs q_now_alikeTo q_now_kind q_now_want q_now_saidAhead q_now_heardWord q_now_heardAnswer m_imagesKept m_bads m_nos m_fulls m_above m_below o9.2.1 m_now_people m_now_said o9.2.2.1 m_now_heard o9.2.2.2.1 o9.2.2.2.2.1 o9.2.2.2.2.2) H locs := hH
          obtain rfl := Option.some.inj h
          exact gm_iret C0 hH dX10_word_63
        · replace h := gm_neg hc8 h
          refine lv_aload_n hx hb dX10_word_46 rfl (lv_at hl 0 rfl) ?_
          refine lv_bipush (v := (-4)) hx hb dX10_word_47 (by decide) ?_
          obtain ⟨o10, ho10, h⟩ := gm_bind_e h
          refine gm_callV (As := [.int (-4)]) (rest := []) (n := 1) (ci := 10) (q0 := 0) C0 hH (mX10_refuse l dC dI  q q_now q_draft q_images q_kinds q_text q_duel q_cover q_clashes q_tally q_sayableByPair q_chosenPairs m_imagesKept m_bads m_nos m_fulls m_above m_below ((-4))   ho10) gX10_word_X10_refuse rfl (by decide +kernel) ⟨rfl, rfl, Nat.le_of_ble_eq_true rfl, Nat.le_of_ble_eq_true rfl⟩ gm_T_ok (fun _ => trivial) [0] rfl rfl rfl [] rfl rfl rfl rfl hl.1 rfl (Nat.le_of_ble_eq_true rfl) dX10_word_49 ⟨Nat.zero_le _, Nat.zero_le _⟩ (fun H locs hH => ?_)
          have hH : gm_H (dC, dI) A s (wX10_word cI q q_now q_now_ending q_now_meaning q_now_cost q_draft q_images q_kinds q_text q_duel q_cover q_clashes q_tally q_sayableByPair q_chosenPairs q_now_alikeTo q_now_kind q_now_want q_now_saidAhead q_now_heardWord q_now_heardAnswer m_imagesKept o10.2.1 o10.2.2.1 o10.2.2.2 m_above m_below m_now_words m_now_people m_now_said m_now_undos m_now_heard m_now_ending m_now_meaning m_now_cost) H locs := hH
          obtain rfl := Option.some.inj h
          exact gm_iret C0 hH dX10_word_52
      · replace h := gm_pos hc7 h
        exact tX10_word_b27 C0  h hH (lv_sub hl [0] rfl)

/-! X10_alike -/
abbrev wX10_alike (cI : ClassId) (q q_now q_now_alikeTo q_draft q_images q_kinds q_text q_duel q_cover q_clashes q_tally q_sayableByPair q_chosenPairs q_now_ending q_now_meaning q_now_cost q_now_kind q_now_want q_now_saidAhead q_now_heardWord q_now_heardAnswer : Nat) (m_imagesKept : Int32) (m_bads : Int32) (m_nos : Int32) (m_fulls : Int32) (m_above : Int64) (m_below : Int64) (m_now_words : Int32) (m_now_people : Int32) (m_now_said : Int32) (m_now_undos : Int32) (m_now_heard : Int32) (m_now_alikeTo : Nat → Int32) : va_W := [(q, .inr (10, [.ref q_now, .ref q_draft, .ref q_images, .int m_imagesKept, .ref q_kinds, .ref q_text, .ref q_duel, .ref q_cover, .int m_bads, .int m_nos, .int m_fulls, .long m_above, .long m_below, .ref q_clashes, .ref q_tally, .ref q_sayableByPair, .ref q_chosenPairs])), (q_now, .inr (9, [.ref q_now_ending, .ref q_now_meaning, .ref q_now_cost, .int m_now_words, .ref q_now_alikeTo, .ref q_now_kind, .ref q_now_want, .int m_now_people, .int m_now_said, .ref q_now_saidAhead, .int m_now_undos, .ref q_now_heardWord, .ref q_now_heardAnswer, .int m_now_heard])), (q_now_alikeTo, .inl (cI, 8, .inl m_now_alikeTo))]
abbrev rX10_alike : Room := { frames := 1, cells := 0, slots := 0, locals := 23 }
def fX10_alike_b31 (N : Nat)  (m_bads : Int32) (m_nos : Int32) (m_fulls : Int32) (m_now_alikeTo : Nat → Int32) : Option (Int32 × Int32 × Int32 × Int32 × (Nat → Int32)) := gm_bind (fX10_refuse N m_bads m_nos m_fulls ((-2))) (fun o3 => some (o3.1, o3.2.1, o3.2.2.1, o3.2.2.2, m_now_alikeTo))
def fX10_alike_b65 (N : Nat)  (m_bads : Int32) (m_nos : Int32) (m_fulls : Int32) (m_now_alikeTo : Nat → Int32) (x4 : Int32) (k1 : Int32) (k2 : Int32) (k3 : Int32) : Option (Int32 × Int32 × Int32 × Int32 × (Nat → Int32)) := gm_bind (fX9_setAlike N m_now_alikeTo k1 k2 k3) (fun o11 => (if x4 = 0 then some (0, m_bads, m_nos, m_fulls, o11) else some (1, m_bads, m_nos, m_fulls, o11)))
def fX10_alike (N : Nat) (m_bads : Int32) (m_nos : Int32) (m_fulls : Int32) (m_now_alikeTo : Nat → Int32) (x1 : Int32) (x2 : Int32) (x3 : Int32) : Option (Int32 × Int32 × Int32 × Int32 × (Nat → Int32)) := gm_bind (fX10_fits N x1 8) (fun o1 => (if o1 = 0 then (fX10_alike_b31 N  m_bads m_nos m_fulls m_now_alikeTo) else gm_bind (fX10_fits N x2 8) (fun o4 => (if o4 = 0 then (fX10_alike_b31 N  m_bads m_nos m_fulls m_now_alikeTo) else (if x1 = x2 then (fX10_alike_b31 N  m_bads m_nos m_fulls m_now_alikeTo) else gm_bind (fX10_fits N x3 2) (fun o7 => (if o7 = 0 then (fX10_alike_b31 N  m_bads m_nos m_fulls m_now_alikeTo) else gm_bind (fX9_areAlike N m_now_alikeTo x1 x2) (fun o9 => (if x3 = 1 then (fX10_alike_b65 N  m_bads m_nos m_fulls m_now_alikeTo o9 x1 x2 1) else (fX10_alike_b65 N  m_bads m_nos m_fulls m_now_alikeTo o9 x1 x2 0))))))))))
set_option maxRecDepth 20000 in
theorem inX10_alike_X10 : ∀ w ∈ u_ws RX10 TX10 17, w ∈ wsX10_alike := fun w h => by
  obtain ⟨k, hk, rfl⟩ := List.mem_map.mp h
  have hk2 := List.mem_range.mp hk
  exact List.mem_of_getElem? (i := 23 + k) (by rcases (show k = 0 ∨ k = 1 ∨ k = 2 ∨ k = 3 ∨ k = 4 ∨ k = 5 ∨ k = 6 ∨ k = 7 ∨ k = 8 ∨ k = 9 ∨ k = 10 ∨ k = 11 ∨ k = 12 ∨ k = 13 ∨ k = 14 ∨ k = 15 ∨ k = 16 by omega) with rfl | rfl | rfl | rfl | rfl | rfl | rfl | rfl | rfl | rfl | rfl | rfl | rfl | rfl | rfl | rfl | rfl <;> rfl)
set_option maxRecDepth 20000 in
theorem inX10_alike_X9 : ∀ w ∈ u_ws RX9 TX9 14, w ∈ wsX10_alike := fun w h => by
  obtain ⟨k, hk, rfl⟩ := List.mem_map.mp h
  have hk2 := List.mem_range.mp hk
  exact List.mem_of_getElem? (i := 40 + k) (by rcases (show k = 0 ∨ k = 1 ∨ k = 2 ∨ k = 3 ∨ k = 4 ∨ k = 5 ∨ k = 6 ∨ k = 7 ∨ k = 8 ∨ k = 9 ∨ k = 10 ∨ k = 11 ∨ k = 12 ∨ k = 13 by omega) with rfl | rfl | rfl | rfl | rfl | rfl | rfl | rfl | rfl | rfl | rfl | rfl | rfl | rfl <;> rfl)
set_option maxRecDepth 100000 in
set_option maxHeartbeats 4000000 in
theorem tX10_alike_b31 {p : Program} {l : Launch} {e : Env} {s : State} {m : MethodId} {args : Array Value} {below : List Frame} {meth : Method} {c : Code} {A : Nat → Prop} {dC : Nat → ClassId} {dI : Nat → Nat → Nat} {cI : ClassId} {q q_now q_now_alikeTo q_draft q_images q_kinds q_text q_duel q_cover q_clashes q_tally q_sayableByPair q_chosenPairs q_now_ending q_now_meaning q_now_cost q_now_kind q_now_want q_now_saidAhead q_now_heardWord q_now_heardAnswer : Nat} {m_imagesKept : Int32} {m_bads : Int32} {m_nos : Int32} {m_fulls : Int32} {m_above : Int64} {m_below : Int64} {m_now_words : Int32} {m_now_people : Int32} {m_now_said : Int32} {m_now_undos : Int32} {m_now_heard : Int32} {m_now_alikeTo : Nat → Int32} (C0 : gm_C p s m args meth c (dC, dI) [(cI, .int)] A gm_T RX10 cX10_alike 5 (some .int) wsX10_alike) {N : Nat} {out : Int32 × Int32 × Int32 × Int32 × (Nat → Int32)}    {H : Heap} {locs : List Loc} {ls : Array Slot} (h : fX10_alike_b31 N  m_bads m_nos m_fulls m_now_alikeTo = some out) (hH : gm_H (dC, dI) A s (wX10_alike cI q q_now q_now_alikeTo q_draft q_images q_kinds q_text q_duel q_cover q_clashes q_tally q_sayableByPair q_chosenPairs q_now_ending q_now_meaning q_now_cost q_now_kind q_now_want q_now_saidAhead q_now_heardWord q_now_heardAnswer m_imagesKept m_bads m_nos m_fulls m_above m_below m_now_words m_now_people m_now_said m_now_undos m_now_heard m_now_alikeTo) H locs) (hl : lv_has ls 5 [(0, .ref q)]) : W p l e rX10_alike s m args below meth c H locs 0 0 (MQ below (gm_Q (dC, dI) [(cI, .int)] A (some (.int out.1)) (wX10_alike cI q q_now q_now_alikeTo q_draft q_images q_kinds q_text q_duel q_cover q_clashes q_tally q_sayableByPair q_chosenPairs q_now_ending q_now_meaning q_now_cost q_now_kind q_now_want q_now_saidAhead q_now_heardWord q_now_heardAnswer m_imagesKept out.2.1 out.2.2.1 out.2.2.2.1 m_above m_below m_now_words m_now_people m_now_said m_now_undos m_now_heard out.2.2.2.2)) args s 0 0 A) (F0 m 31 ls []) := by
  obtain ⟨hx, hb, hml, hr, hown, hts, hA, hK, hX, hlocks⟩ := id C0
  unfold fX10_alike_b31 at h
  refine lv_aload_n hx hb dX10_alike_31 rfl (lv_at hl 0 rfl) ?_
  refine lv_bipush (v := (-2)) hx hb dX10_alike_32 (by decide) ?_
  obtain ⟨o3, ho3, h⟩ := gm_bind_e h
  refine gm_callV (As := [.int (-2)]) (rest := []) (n := 1) (ci := 10) (q0 := 0) C0 hH (mX10_refuse l dC dI  q q_now q_draft q_images q_kinds q_text q_duel q_cover q_clashes q_tally q_sayableByPair q_chosenPairs m_imagesKept m_bads m_nos m_fulls m_above m_below ((-2))   ho3) gX10_alike_X10_refuse rfl (by decide +kernel) ⟨rfl, rfl, Nat.le_of_ble_eq_true rfl, Nat.le_of_ble_eq_true rfl⟩ gm_T_ok (fun _ => trivial) [0] rfl rfl rfl [] rfl rfl rfl rfl hl.1 rfl (Nat.le_of_ble_eq_true rfl) dX10_alike_34 ⟨Nat.zero_le _, Nat.zero_le _⟩ (fun H locs hH => ?_)
  have hH : gm_H (dC, dI) A s (wX10_alike cI q q_now q_now_alikeTo q_draft q_images q_kinds q_text q_duel q_cover q_clashes q_tally q_sayableByPair q_chosenPairs q_now_ending q_now_meaning q_now_cost q_now_kind q_now_want q_now_saidAhead q_now_heardWord q_now_heardAnswer m_imagesKept o3.2.1 o3.2.2.1 o3.2.2.2 m_above m_below m_now_words m_now_people m_now_said m_now_undos m_now_heard m_now_alikeTo) H locs := hH
  obtain rfl := Option.some.inj h
  exact gm_iret C0 hH dX10_alike_37
set_option maxRecDepth 100000 in
set_option maxHeartbeats 4000000 in
theorem tX10_alike_b65 {p : Program} {l : Launch} {e : Env} {s : State} {m : MethodId} {args : Array Value} {below : List Frame} {meth : Method} {c : Code} {A : Nat → Prop} {dC : Nat → ClassId} {dI : Nat → Nat → Nat} {cI : ClassId} {q q_now q_now_alikeTo q_draft q_images q_kinds q_text q_duel q_cover q_clashes q_tally q_sayableByPair q_chosenPairs q_now_ending q_now_meaning q_now_cost q_now_kind q_now_want q_now_saidAhead q_now_heardWord q_now_heardAnswer : Nat} {m_imagesKept : Int32} {m_bads : Int32} {m_nos : Int32} {m_fulls : Int32} {m_above : Int64} {m_below : Int64} {m_now_words : Int32} {m_now_people : Int32} {m_now_said : Int32} {m_now_undos : Int32} {m_now_heard : Int32} {m_now_alikeTo : Nat → Int32} {x4 : Int32} {k1 : Int32} {k2 : Int32} {k3 : Int32} (C0 : gm_C p s m args meth c (dC, dI) [(cI, .int)] A gm_T RX10 cX10_alike 5 (some .int) wsX10_alike) {N : Nat} {out : Int32 × Int32 × Int32 × Int32 × (Nat → Int32)}    {H : Heap} {locs : List Loc} {ls : Array Slot} (h : fX10_alike_b65 N  m_bads m_nos m_fulls m_now_alikeTo x4 k1 k2 k3 = some out) (hH : gm_H (dC, dI) A s (wX10_alike cI q q_now q_now_alikeTo q_draft q_images q_kinds q_text q_duel q_cover q_clashes q_tally q_sayableByPair q_chosenPairs q_now_ending q_now_meaning q_now_cost q_now_kind q_now_want q_now_saidAhead q_now_heardWord q_now_heardAnswer m_imagesKept m_bads m_nos m_fulls m_above m_below m_now_words m_now_people m_now_said m_now_undos m_now_heard m_now_alikeTo) H locs) (hl : lv_has ls 5 [(4, .int x4)]) : W p l e rX10_alike s m args below meth c H locs 0 0 (MQ below (gm_Q (dC, dI) [(cI, .int)] A (some (.int out.1)) (wX10_alike cI q q_now q_now_alikeTo q_draft q_images q_kinds q_text q_duel q_cover q_clashes q_tally q_sayableByPair q_chosenPairs q_now_ending q_now_meaning q_now_cost q_now_kind q_now_want q_now_saidAhead q_now_heardWord q_now_heardAnswer m_imagesKept out.2.1 out.2.2.1 out.2.2.2.1 m_above m_below m_now_words m_now_people m_now_said m_now_undos m_now_heard out.2.2.2.2)) args s 0 0 A) (F0 m 65 ls [.int k3, .int k2, .int k1, .ref q_now]) := by
  obtain ⟨hx, hb, hml, hr, hown, hts, hA, hK, hX, hlocks⟩ := id C0
  unfold fX10_alike_b65 at h
  obtain ⟨o11, ho11, h⟩ := gm_bind_e h
  refine gm_callV (As := [.int k1, .int k2, .int k3]) (rest := []) (n := 3) (ci := 9) (q0 := 1) C0 hH (mX9_setAlike l dC dI cI q_now q_now_alikeTo q_now_ending q_now_meaning q_now_cost q_now_kind q_now_want q_now_saidAhead q_now_heardWord q_now_heardAnswer m_now_words m_now_people m_now_said m_now_undos m_now_heard m_now_alikeTo k1 k2 k3   ho11) gX10_alike_X9_setAlike rfl (by decide +kernel) ⟨rfl, rfl, Nat.le_of_ble_eq_true rfl, Nat.le_of_ble_eq_true rfl⟩ gm_T_ok (fun _ => trivial) [1, 2] rfl rfl rfl [0] rfl rfl rfl rfl hl.1 rfl (Nat.le_of_ble_eq_true rfl) dX10_alike_65 ⟨Nat.zero_le _, Nat.zero_le _⟩ (fun H locs hH => ?_)
  have hH : gm_H (dC, dI) A s (wX10_alike cI q q_now q_now_alikeTo q_draft q_images q_kinds q_text q_duel q_cover q_clashes q_tally q_sayableByPair q_chosenPairs q_now_ending q_now_meaning q_now_cost q_now_kind q_now_want q_now_saidAhead q_now_heardWord q_now_heardAnswer m_imagesKept m_bads m_nos m_fulls m_above m_below m_now_words m_now_people m_now_said m_now_undos m_now_heard o11) H locs := hH
  refine lv_iload hx hb dX10_alike_68 (lv_at hl 0 rfl) ?_
  refine lv_if_eq (tgt := 77) hx hb dX10_alike_70 (by decide) (fun hc12 => ?_) (fun hc12 => ?_)
  · replace h := gm_pos hc12 h
    refine lv_iconst (v := 0) hx hb dX10_alike_77 (by decide) ?_
    obtain rfl := Option.some.inj h
    exact gm_iret C0 hH dX10_alike_78
  · replace h := gm_neg hc12 h
    refine lv_iconst (v := 1) hx hb dX10_alike_73 (by decide) ?_
    refine lv_goto (tgt := 78) hx hb dX10_alike_74 (by decide) ?_
    obtain rfl := Option.some.inj h
    exact gm_iret C0 hH dX10_alike_78
set_option maxRecDepth 100000 in
set_option maxHeartbeats 4000000 in
theorem mX10_alike (l : Launch) (dC : Nat → ClassId) (dI : Nat → Nat → Nat) (cI : ClassId) (q q_now q_now_alikeTo q_draft q_images q_kinds q_text q_duel q_cover q_clashes q_tally q_sayableByPair q_chosenPairs q_now_ending q_now_meaning q_now_cost q_now_kind q_now_want q_now_saidAhead q_now_heardWord q_now_heardAnswer : Nat) (m_imagesKept : Int32) (m_bads : Int32) (m_nos : Int32) (m_fulls : Int32) (m_above : Int64) (m_below : Int64) (m_now_words : Int32) (m_now_people : Int32) (m_now_said : Int32) (m_now_undos : Int32) (m_now_heard : Int32) (m_now_alikeTo : Nat → Int32) (x1 : Int32) (x2 : Int32) (x3 : Int32)  {N : Nat} {out : Int32 × Int32 × Int32 × Int32 × (Nat → Int32)} (h : fX10_alike N m_bads m_nos m_fulls m_now_alikeTo x1 x2 x3 = some out) : gm_Met l yX10_alike wsX10_alike rX10_alike (dC, dI) [(cI, .int)] gm_T [.ref q, .int x1, .int x2, .int x3] (wX10_alike cI q q_now q_now_alikeTo q_draft q_images q_kinds q_text q_duel q_cover q_clashes q_tally q_sayableByPair q_chosenPairs q_now_ending q_now_meaning q_now_cost q_now_kind q_now_want q_now_saidAhead q_now_heardWord q_now_heardAnswer m_imagesKept m_bads m_nos m_fulls m_above m_below m_now_words m_now_people m_now_said m_now_undos m_now_heard m_now_alikeTo) (some (.int out.1)) (wX10_alike cI q q_now q_now_alikeTo q_draft q_images q_kinds q_text q_duel q_cover q_clashes q_tally q_sayableByPair q_chosenPairs q_now_ending q_now_meaning q_now_cost q_now_kind q_now_want q_now_saidAhead q_now_heardWord q_now_heardAnswer m_imagesKept out.2.1 out.2.2.1 out.2.2.2.1 m_above m_below m_now_words m_now_people m_now_said m_now_undos m_now_heard out.2.2.2.2) := by
  refine gm_ofW (cc := cX10_alike) (maxL := 5) (ret := (some .int)) (by decide +kernel) rfl (Nat.le_of_ble_eq_true rfl) ?_
  intro p e s m below meth c A C0 hH ls hl
  generalize ([.ref q, .int x1, .int x2, .int x3] : List Value).toArray = args at C0 ⊢
  have hl : lv_has ls 5 [(0, .ref q), (1, .int x1), (2, .int x2), (3, .int x3)] := hl
  generalize s.heap = H at hH ⊢
  generalize ([] : List Loc) = locs at hH ⊢
  obtain ⟨hx, hb, hml, hr, hown, hts, hA, hK, hX, hlocks⟩ := id C0
  unfold fX10_alike at h
  refine lv_iload_n hx hb dX10_alike_0 rfl (lv_at hl 1 rfl) ?_
  refine lv_bipush (v := 8) hx hb dX10_alike_1 (by decide) ?_
  obtain ⟨o1, ho1, h⟩ := gm_bind_e h
  refine gm_callS (As := [.int x1, .int 8]) (rest := []) (n := 2) C0 hH (mX10_fits l dC dI    x1 8   ho1) gX10_alike_X10_fits rfl (by decide +kernel) ⟨rfl, rfl, Nat.le_of_ble_eq_true rfl, Nat.le_of_ble_eq_true rfl⟩ gm_T_ok (fun _ => trivial) [] rfl rfl rfl [] rfl rfl hl.1 rfl (Nat.le_of_ble_eq_true rfl) dX10_alike_3 ⟨Nat.zero_le _, Nat.zero_le _⟩ (fun H locs hH => ?_)
  have hH : gm_H (dC, dI) A s (wX10_alike cI q q_now q_now_alikeTo q_draft q_images q_kinds q_text q_duel q_cover q_clashes q_tally q_sayableByPair q_chosenPairs q_now_ending q_now_meaning q_now_cost q_now_kind q_now_want q_now_saidAhead q_now_heardWord q_now_heardAnswer m_imagesKept m_bads m_nos m_fulls m_above m_below m_now_words m_now_people m_now_said m_now_undos m_now_heard m_now_alikeTo) H locs := hH
  refine lv_if_eq (tgt := 31) hx hb dX10_alike_6 (by decide) (fun hc2 => ?_) (fun hc2 => ?_)
  · replace h := gm_pos hc2 h
    exact tX10_alike_b31 C0  h hH (lv_sub hl [0] rfl)
  · replace h := gm_neg hc2 h
    refine lv_iload_n hx hb dX10_alike_9 rfl (lv_at hl 2 rfl) ?_
    refine lv_bipush (v := 8) hx hb dX10_alike_10 (by decide) ?_
    obtain ⟨o4, ho4, h⟩ := gm_bind_e h
    refine gm_callS (As := [.int x2, .int 8]) (rest := []) (n := 2) C0 hH (mX10_fits l dC dI    x2 8   ho4) gX10_alike_X10_fits rfl (by decide +kernel) ⟨rfl, rfl, Nat.le_of_ble_eq_true rfl, Nat.le_of_ble_eq_true rfl⟩ gm_T_ok (fun _ => trivial) [] rfl rfl rfl [] rfl rfl hl.1 rfl (Nat.le_of_ble_eq_true rfl) dX10_alike_12 ⟨Nat.zero_le _, Nat.zero_le _⟩ (fun H locs hH => ?_)
    have hH : gm_H (dC, dI) A s (wX10_alike cI q q_now q_now_alikeTo q_draft q_images q_kinds q_text q_duel q_cover q_clashes q_tally q_sayableByPair q_chosenPairs q_now_ending q_now_meaning q_now_cost q_now_kind q_now_want q_now_saidAhead q_now_heardWord q_now_heardAnswer m_imagesKept m_bads m_nos m_fulls m_above m_below m_now_words m_now_people m_now_said m_now_undos m_now_heard m_now_alikeTo) H locs := hH
    refine lv_if_eq (tgt := 31) hx hb dX10_alike_15 (by decide) (fun hc5 => ?_) (fun hc5 => ?_)
    · replace h := gm_pos hc5 h
      exact tX10_alike_b31 C0  h hH (lv_sub hl [0] rfl)
    · replace h := gm_neg hc5 h
      refine lv_iload_n hx hb dX10_alike_18 rfl (lv_at hl 1 rfl) ?_
      refine lv_iload_n hx hb dX10_alike_19 rfl (lv_at hl 2 rfl) ?_
      refine lv_icmp_eq (tgt := 31) hx hb dX10_alike_20 (by decide) (fun hc6 => ?_) (fun hc6 => ?_)
      · replace h := gm_pos hc6 h
        exact tX10_alike_b31 C0  h hH (lv_sub hl [0] rfl)
      · replace h := gm_neg hc6 h
        refine lv_iload_n hx hb dX10_alike_23 rfl (lv_at hl 3 rfl) ?_
        refine lv_iconst (v := 2) hx hb dX10_alike_24 (by decide) ?_
        obtain ⟨o7, ho7, h⟩ := gm_bind_e h
        refine gm_callS (As := [.int x3, .int 2]) (rest := []) (n := 2) C0 hH (mX10_fits l dC dI    x3 2   ho7) gX10_alike_X10_fits rfl (by decide +kernel) ⟨rfl, rfl, Nat.le_of_ble_eq_true rfl, Nat.le_of_ble_eq_true rfl⟩ gm_T_ok (fun _ => trivial) [] rfl rfl rfl [] rfl rfl hl.1 rfl (Nat.le_of_ble_eq_true rfl) dX10_alike_25 ⟨Nat.zero_le _, Nat.zero_le _⟩ (fun H locs hH => ?_)
        have hH : gm_H (dC, dI) A s (wX10_alike cI q q_now q_now_alikeTo q_draft q_images q_kinds q_text q_duel q_cover q_clashes q_tally q_sayableByPair q_chosenPairs q_now_ending q_now_meaning q_now_cost q_now_kind q_now_want q_now_saidAhead q_now_heardWord q_now_heardAnswer m_imagesKept m_bads m_nos m_fulls m_above m_below m_now_words m_now_people m_now_said m_now_undos m_now_heard m_now_alikeTo) H locs := hH
        refine lv_if_ne (tgt := 38) hx hb dX10_alike_28 (by decide) (fun hc8 => ?_) (fun hc8 => ?_)
        · replace h := gm_neg hc8 h
          refine lv_aload_n hx hb dX10_alike_38 rfl (lv_at hl 0 rfl) ?_
          refine gm_get (ci := 10) C0 hH inX10_alike_X10 0 0 1 rfl rfl (by decide) rfl rfl dX10_alike_39 ?_
          refine lv_iload_n hx hb dX10_alike_42 rfl (lv_at hl 1 rfl) ?_
          refine lv_iload_n hx hb dX10_alike_43 rfl (lv_at hl 2 rfl) ?_
          obtain ⟨o9, ho9, h⟩ := gm_bind_e h
          refine gm_callV (As := [.int x1, .int x2]) (rest := []) (n := 2) (ci := 9) (q0 := 1) C0 hH (mX9_areAlike l dC dI cI q_now q_now_alikeTo q_now_ending q_now_meaning q_now_cost q_now_kind q_now_want q_now_saidAhead q_now_heardWord q_now_heardAnswer m_now_words m_now_people m_now_said m_now_undos m_now_heard m_now_alikeTo x1 x2   ho9) gX10_alike_X9_areAlike rfl (by decide +kernel) ⟨rfl, rfl, Nat.le_of_ble_eq_true rfl, Nat.le_of_ble_eq_true rfl⟩ gm_T_ok (fun _ => trivial) [1, 2] rfl rfl rfl [0] rfl rfl rfl rfl hl.1 rfl (Nat.le_of_ble_eq_true rfl) dX10_alike_44 ⟨Nat.zero_le _, Nat.zero_le _⟩ (fun H locs hH => ?_)
          have hH : gm_H (dC, dI) A s (wX10_alike cI q q_now q_now_alikeTo q_draft q_images q_kinds q_text q_duel q_cover q_clashes q_tally q_sayableByPair q_chosenPairs q_now_ending q_now_meaning q_now_cost q_now_kind q_now_want q_now_saidAhead q_now_heardWord q_now_heardAnswer m_imagesKept m_bads m_nos m_fulls m_above m_below m_now_words m_now_people m_now_said m_now_undos m_now_heard m_now_alikeTo) H locs := hH
          refine lv_istore (lv' := [(4, .int o9), (0, .ref q), (1, .int x1), (2, .int x2), (3, .int x3)]) hx hb dX10_alike_47 hl (by decide) rfl (fun ls hl => ?_)
          refine lv_aload_n hx hb dX10_alike_49 rfl (lv_at hl 1 rfl) ?_
          refine gm_get (ci := 10) C0 hH inX10_alike_X10 0 0 1 rfl rfl (by decide) rfl rfl dX10_alike_50 ?_
          refine lv_iload_n hx hb dX10_alike_53 rfl (lv_at hl 2 rfl) ?_
          refine lv_iload_n hx hb dX10_alike_54 rfl (lv_at hl 3 rfl) ?_
          refine lv_iload_n hx hb dX10_alike_55 rfl (lv_at hl 4 rfl) ?_
          refine lv_iconst (v := 1) hx hb dX10_alike_56 (by decide) ?_
          refine lv_icmp_ne (tgt := 64) hx hb dX10_alike_57 (by decide) (fun hc10 => ?_) (fun hc10 => ?_)
          · replace h := gm_neg hc10 h
            refine lv_iconst (v := 0) hx hb dX10_alike_64 (by decide) ?_
            exact tX10_alike_b65 C0  h hH (lv_sub hl [0] rfl)
          · replace h := gm_pos hc10 h
            refine lv_iconst (v := 1) hx hb dX10_alike_60 (by decide) ?_
            refine lv_goto (tgt := 65) hx hb dX10_alike_61 (by decide) ?_
            exact tX10_alike_b65 C0  h hH (lv_sub hl [0] rfl)
        · replace h := gm_pos hc8 h
          exact tX10_alike_b31 C0  h hH (lv_sub hl [0] rfl)

/-! X10_person -/
abbrev wX10_person (cI : ClassId) (q q_now q_now_kind q_now_want q_draft q_images q_kinds q_text q_duel q_cover q_clashes q_tally q_sayableByPair q_chosenPairs q_now_ending q_now_meaning q_now_cost q_now_alikeTo q_now_saidAhead q_now_heardWord q_now_heardAnswer : Nat) (m_imagesKept : Int32) (m_bads : Int32) (m_nos : Int32) (m_fulls : Int32) (m_above : Int64) (m_below : Int64) (m_now_words : Int32) (m_now_people : Int32) (m_now_said : Int32) (m_now_undos : Int32) (m_now_heard : Int32) (m_now_kind : Nat → Int32) (m_now_want : Nat → Int32) : va_W := [(q, .inr (10, [.ref q_now, .ref q_draft, .ref q_images, .int m_imagesKept, .ref q_kinds, .ref q_text, .ref q_duel, .ref q_cover, .int m_bads, .int m_nos, .int m_fulls, .long m_above, .long m_below, .ref q_clashes, .ref q_tally, .ref q_sayableByPair, .ref q_chosenPairs])), (q_now, .inr (9, [.ref q_now_ending, .ref q_now_meaning, .ref q_now_cost, .int m_now_words, .ref q_now_alikeTo, .ref q_now_kind, .ref q_now_want, .int m_now_people, .int m_now_said, .ref q_now_saidAhead, .int m_now_undos, .ref q_now_heardWord, .ref q_now_heardAnswer, .int m_now_heard])), (q_now_kind, .inl (cI, 5, .inl m_now_kind)), (q_now_want, .inl (cI, 5, .inl m_now_want))]
abbrev rX10_person : Room := { frames := 1, cells := 0, slots := 0, locals := 22 }
def fX10_person_b18 (N : Nat)  (m_bads : Int32) (m_nos : Int32) (m_fulls : Int32) (m_now_people : Int32) (m_now_kind : Nat → Int32) (m_now_want : Nat → Int32) : Option (Int32 × Int32 × Int32 × Int32 × Int32 × (Nat → Int32) × (Nat → Int32)) := gm_bind (fX10_refuse N m_bads m_nos m_fulls ((-2))) (fun o3 => some (o3.1, o3.2.1, o3.2.2.1, o3.2.2.2, m_now_people, m_now_kind, m_now_want))
def fX10_person (N : Nat) (m_bads : Int32) (m_nos : Int32) (m_fulls : Int32) (m_now_people : Int32) (m_now_kind : Nat → Int32) (m_now_want : Nat → Int32) (x1 : Int32) (x2 : Int32) : Option (Int32 × Int32 × Int32 × Int32 × Int32 × (Nat → Int32) × (Nat → Int32)) := gm_bind (fX10_fits N x1 6) (fun o1 => (if o1 = 0 then (fX10_person_b18 N  m_bads m_nos m_fulls m_now_people m_now_kind m_now_want) else gm_bind (fX10_fits N x2 8) (fun o4 => (if o4 = 0 then (fX10_person_b18 N  m_bads m_nos m_fulls m_now_people m_now_kind m_now_want) else (if m_now_people < 5 then gm_bind (fX9_addPerson N m_now_people m_now_kind m_now_want x1 x2) (fun o7 => some (o7.1, m_bads, m_nos, m_fulls, o7.2.1, o7.2.2.1, o7.2.2.2)) else gm_bind (fX10_refuse N m_bads m_nos m_fulls ((-4))) (fun o8 => some (o8.1, o8.2.1, o8.2.2.1, o8.2.2.2, m_now_people, m_now_kind, m_now_want)))))))
set_option maxRecDepth 20000 in
theorem inX10_person_X10 : ∀ w ∈ u_ws RX10 TX10 17, w ∈ wsX10_person := fun w h => by
  obtain ⟨k, hk, rfl⟩ := List.mem_map.mp h
  have hk2 := List.mem_range.mp hk
  exact List.mem_of_getElem? (i := 22 + k) (by rcases (show k = 0 ∨ k = 1 ∨ k = 2 ∨ k = 3 ∨ k = 4 ∨ k = 5 ∨ k = 6 ∨ k = 7 ∨ k = 8 ∨ k = 9 ∨ k = 10 ∨ k = 11 ∨ k = 12 ∨ k = 13 ∨ k = 14 ∨ k = 15 ∨ k = 16 by omega) with rfl | rfl | rfl | rfl | rfl | rfl | rfl | rfl | rfl | rfl | rfl | rfl | rfl | rfl | rfl | rfl | rfl <;> rfl)
set_option maxRecDepth 20000 in
theorem inX10_person_X9 : ∀ w ∈ u_ws RX9 TX9 14, w ∈ wsX10_person := fun w h => by
  obtain ⟨k, hk, rfl⟩ := List.mem_map.mp h
  have hk2 := List.mem_range.mp hk
  exact List.mem_of_getElem? (i := 39 + k) (by rcases (show k = 0 ∨ k = 1 ∨ k = 2 ∨ k = 3 ∨ k = 4 ∨ k = 5 ∨ k = 6 ∨ k = 7 ∨ k = 8 ∨ k = 9 ∨ k = 10 ∨ k = 11 ∨ k = 12 ∨ k = 13 by omega) with rfl | rfl | rfl | rfl | rfl | rfl | rfl | rfl | rfl | rfl | rfl | rfl | rfl | rfl <;> rfl)
set_option maxRecDepth 100000 in
set_option maxHeartbeats 4000000 in
theorem tX10_person_b18 {p : Program} {l : Launch} {e : Env} {s : State} {m : MethodId} {args : Array Value} {below : List Frame} {meth : Method} {c : Code} {A : Nat → Prop} {dC : Nat → ClassId} {dI : Nat → Nat → Nat} {cI : ClassId} {q q_now q_now_kind q_now_want q_draft q_images q_kinds q_text q_duel q_cover q_clashes q_tally q_sayableByPair q_chosenPairs q_now_ending q_now_meaning q_now_cost q_now_alikeTo q_now_saidAhead q_now_heardWord q_now_heardAnswer : Nat} {m_imagesKept : Int32} {m_bads : Int32} {m_nos : Int32} {m_fulls : Int32} {m_above : Int64} {m_below : Int64} {m_now_words : Int32} {m_now_people : Int32} {m_now_said : Int32} {m_now_undos : Int32} {m_now_heard : Int32} {m_now_kind : Nat → Int32} {m_now_want : Nat → Int32} (C0 : gm_C p s m args meth c (dC, dI) [(cI, .int)] A gm_T RX10 cX10_person 3 (some .int) wsX10_person) {N : Nat} {out : Int32 × Int32 × Int32 × Int32 × Int32 × (Nat → Int32) × (Nat → Int32)}    {H : Heap} {locs : List Loc} {ls : Array Slot} (h : fX10_person_b18 N  m_bads m_nos m_fulls m_now_people m_now_kind m_now_want = some out) (hH : gm_H (dC, dI) A s (wX10_person cI q q_now q_now_kind q_now_want q_draft q_images q_kinds q_text q_duel q_cover q_clashes q_tally q_sayableByPair q_chosenPairs q_now_ending q_now_meaning q_now_cost q_now_alikeTo q_now_saidAhead q_now_heardWord q_now_heardAnswer m_imagesKept m_bads m_nos m_fulls m_above m_below m_now_words m_now_people m_now_said m_now_undos m_now_heard m_now_kind m_now_want) H locs) (hl : lv_has ls 3 [(0, .ref q)]) : W p l e rX10_person s m args below meth c H locs 0 0 (MQ below (gm_Q (dC, dI) [(cI, .int)] A (some (.int out.1)) (wX10_person cI q q_now q_now_kind q_now_want q_draft q_images q_kinds q_text q_duel q_cover q_clashes q_tally q_sayableByPair q_chosenPairs q_now_ending q_now_meaning q_now_cost q_now_alikeTo q_now_saidAhead q_now_heardWord q_now_heardAnswer m_imagesKept out.2.1 out.2.2.1 out.2.2.2.1 m_above m_below m_now_words out.2.2.2.2.1 m_now_said m_now_undos m_now_heard out.2.2.2.2.2.1 out.2.2.2.2.2.2)) args s 0 0 A) (F0 m 18 ls []) := by
  obtain ⟨hx, hb, hml, hr, hown, hts, hA, hK, hX, hlocks⟩ := id C0
  unfold fX10_person_b18 at h
  refine lv_aload_n hx hb dX10_person_18 rfl (lv_at hl 0 rfl) ?_
  refine lv_bipush (v := (-2)) hx hb dX10_person_19 (by decide) ?_
  obtain ⟨o3, ho3, h⟩ := gm_bind_e h
  refine gm_callV (As := [.int (-2)]) (rest := []) (n := 1) (ci := 10) (q0 := 0) C0 hH (mX10_refuse l dC dI  q q_now q_draft q_images q_kinds q_text q_duel q_cover q_clashes q_tally q_sayableByPair q_chosenPairs m_imagesKept m_bads m_nos m_fulls m_above m_below ((-2))   ho3) gX10_person_X10_refuse rfl (by decide +kernel) ⟨rfl, rfl, Nat.le_of_ble_eq_true rfl, Nat.le_of_ble_eq_true rfl⟩ gm_T_ok (fun _ => trivial) [0] rfl rfl rfl [] rfl rfl rfl rfl hl.1 rfl (Nat.le_of_ble_eq_true rfl) dX10_person_21 ⟨Nat.zero_le _, Nat.zero_le _⟩ (fun H locs hH => ?_)
  have hH : gm_H (dC, dI) A s (wX10_person cI q q_now q_now_kind q_now_want q_draft q_images q_kinds q_text q_duel q_cover q_clashes q_tally q_sayableByPair q_chosenPairs q_now_ending q_now_meaning q_now_cost q_now_alikeTo q_now_saidAhead q_now_heardWord q_now_heardAnswer m_imagesKept o3.2.1 o3.2.2.1 o3.2.2.2 m_above m_below m_now_words m_now_people m_now_said m_now_undos m_now_heard m_now_kind m_now_want) H locs := hH
  obtain rfl := Option.some.inj h
  exact gm_iret C0 hH dX10_person_24
set_option maxRecDepth 100000 in
set_option maxHeartbeats 4000000 in
theorem mX10_person (l : Launch) (dC : Nat → ClassId) (dI : Nat → Nat → Nat) (cI : ClassId) (q q_now q_now_kind q_now_want q_draft q_images q_kinds q_text q_duel q_cover q_clashes q_tally q_sayableByPair q_chosenPairs q_now_ending q_now_meaning q_now_cost q_now_alikeTo q_now_saidAhead q_now_heardWord q_now_heardAnswer : Nat) (m_imagesKept : Int32) (m_bads : Int32) (m_nos : Int32) (m_fulls : Int32) (m_above : Int64) (m_below : Int64) (m_now_words : Int32) (m_now_people : Int32) (m_now_said : Int32) (m_now_undos : Int32) (m_now_heard : Int32) (m_now_kind : Nat → Int32) (m_now_want : Nat → Int32) (x1 : Int32) (x2 : Int32)  {N : Nat} {out : Int32 × Int32 × Int32 × Int32 × Int32 × (Nat → Int32) × (Nat → Int32)} (h : fX10_person N m_bads m_nos m_fulls m_now_people m_now_kind m_now_want x1 x2 = some out) : gm_Met l yX10_person wsX10_person rX10_person (dC, dI) [(cI, .int)] gm_T [.ref q, .int x1, .int x2] (wX10_person cI q q_now q_now_kind q_now_want q_draft q_images q_kinds q_text q_duel q_cover q_clashes q_tally q_sayableByPair q_chosenPairs q_now_ending q_now_meaning q_now_cost q_now_alikeTo q_now_saidAhead q_now_heardWord q_now_heardAnswer m_imagesKept m_bads m_nos m_fulls m_above m_below m_now_words m_now_people m_now_said m_now_undos m_now_heard m_now_kind m_now_want) (some (.int out.1)) (wX10_person cI q q_now q_now_kind q_now_want q_draft q_images q_kinds q_text q_duel q_cover q_clashes q_tally q_sayableByPair q_chosenPairs q_now_ending q_now_meaning q_now_cost q_now_alikeTo q_now_saidAhead q_now_heardWord q_now_heardAnswer m_imagesKept out.2.1 out.2.2.1 out.2.2.2.1 m_above m_below m_now_words out.2.2.2.2.1 m_now_said m_now_undos m_now_heard out.2.2.2.2.2.1 out.2.2.2.2.2.2) := by
  refine gm_ofW (cc := cX10_person) (maxL := 3) (ret := (some .int)) (by decide +kernel) rfl (Nat.le_of_ble_eq_true rfl) ?_
  intro p e s m below meth c A C0 hH ls hl
  generalize ([.ref q, .int x1, .int x2] : List Value).toArray = args at C0 ⊢
  have hl : lv_has ls 3 [(0, .ref q), (1, .int x1), (2, .int x2)] := hl
  generalize s.heap = H at hH ⊢
  generalize ([] : List Loc) = locs at hH ⊢
  obtain ⟨hx, hb, hml, hr, hown, hts, hA, hK, hX, hlocks⟩ := id C0
  unfold fX10_person at h
  refine lv_iload_n hx hb dX10_person_0 rfl (lv_at hl 1 rfl) ?_
  refine lv_bipush (v := 6) hx hb dX10_person_1 (by decide) ?_
  obtain ⟨o1, ho1, h⟩ := gm_bind_e h
  refine gm_callS (As := [.int x1, .int 6]) (rest := []) (n := 2) C0 hH (mX10_fits l dC dI    x1 6   ho1) gX10_person_X10_fits rfl (by decide +kernel) ⟨rfl, rfl, Nat.le_of_ble_eq_true rfl, Nat.le_of_ble_eq_true rfl⟩ gm_T_ok (fun _ => trivial) [] rfl rfl rfl [] rfl rfl hl.1 rfl (Nat.le_of_ble_eq_true rfl) dX10_person_3 ⟨Nat.zero_le _, Nat.zero_le _⟩ (fun H locs hH => ?_)
  have hH : gm_H (dC, dI) A s (wX10_person cI q q_now q_now_kind q_now_want q_draft q_images q_kinds q_text q_duel q_cover q_clashes q_tally q_sayableByPair q_chosenPairs q_now_ending q_now_meaning q_now_cost q_now_alikeTo q_now_saidAhead q_now_heardWord q_now_heardAnswer m_imagesKept m_bads m_nos m_fulls m_above m_below m_now_words m_now_people m_now_said m_now_undos m_now_heard m_now_kind m_now_want) H locs := hH
  refine lv_if_eq (tgt := 18) hx hb dX10_person_6 (by decide) (fun hc2 => ?_) (fun hc2 => ?_)
  · replace h := gm_pos hc2 h
    exact tX10_person_b18 C0  h hH (lv_sub hl [0] rfl)
  · replace h := gm_neg hc2 h
    refine lv_iload_n hx hb dX10_person_9 rfl (lv_at hl 2 rfl) ?_
    refine lv_bipush (v := 8) hx hb dX10_person_10 (by decide) ?_
    obtain ⟨o4, ho4, h⟩ := gm_bind_e h
    refine gm_callS (As := [.int x2, .int 8]) (rest := []) (n := 2) C0 hH (mX10_fits l dC dI    x2 8   ho4) gX10_person_X10_fits rfl (by decide +kernel) ⟨rfl, rfl, Nat.le_of_ble_eq_true rfl, Nat.le_of_ble_eq_true rfl⟩ gm_T_ok (fun _ => trivial) [] rfl rfl rfl [] rfl rfl hl.1 rfl (Nat.le_of_ble_eq_true rfl) dX10_person_12 ⟨Nat.zero_le _, Nat.zero_le _⟩ (fun H locs hH => ?_)
    have hH : gm_H (dC, dI) A s (wX10_person cI q q_now q_now_kind q_now_want q_draft q_images q_kinds q_text q_duel q_cover q_clashes q_tally q_sayableByPair q_chosenPairs q_now_ending q_now_meaning q_now_cost q_now_alikeTo q_now_saidAhead q_now_heardWord q_now_heardAnswer m_imagesKept m_bads m_nos m_fulls m_above m_below m_now_words m_now_people m_now_said m_now_undos m_now_heard m_now_kind m_now_want) H locs := hH
    refine lv_if_ne (tgt := 25) hx hb dX10_person_15 (by decide) (fun hc5 => ?_) (fun hc5 => ?_)
    · replace h := gm_neg hc5 h
      refine lv_aload_n hx hb dX10_person_25 rfl (lv_at hl 0 rfl) ?_
      refine gm_get (ci := 10) C0 hH inX10_person_X10 0 0 1 rfl rfl (by decide) rfl rfl dX10_person_26 ?_
      refine gm_get (ci := 9) C0 hH inX10_person_X9 1 7 2 rfl rfl (by decide) rfl rfl dX10_person_29 ?_
      refine lv_iconst (v := 5) hx hb dX10_person_32 (by decide) ?_
      refine lv_icmp_lt (tgt := 43) hx hb dX10_person_33 (by decide) (fun hc6 => ?_) (fun hc6 => ?_)
      · replace h := gm_pos hc6 h
        refine lv_aload_n hx hb dX10_person_43 rfl (lv_at hl 0 rfl) ?_
        refine gm_get (ci := 10) C0 hH inX10_person_X10 0 0 1 rfl rfl (by decide) rfl rfl dX10_person_44 ?_
        refine lv_iload_n hx hb dX10_person_47 rfl (lv_at hl 1 rfl) ?_
        refine lv_iload_n hx hb dX10_person_48 rfl (lv_at hl 2 rfl) ?_
        obtain ⟨o7, ho7, h⟩ := gm_bind_e h
        refine gm_callV (As := [.int x1, .int x2]) (rest := []) (n := 2) (ci := 9) (q0 := 1) C0 hH (mX9_addPerson l dC dI cI q_now q_now_kind q_now_want q_now_ending q_now_meaning q_now_cost q_now_alikeTo q_now_saidAhead q_now_heardWord q_now_heardAnswer m_now_words m_now_people m_now_said m_now_undos m_now_heard m_now_kind m_now_want x1 x2   ho7) gX10_person_X9_addPerson rfl (by decide +kernel) ⟨rfl, rfl, Nat.le_of_ble_eq_true rfl, Nat.le_of_ble_eq_true rfl⟩ gm_T_ok (fun _ => trivial) [1, 2, 3] rfl rfl rfl [0] rfl rfl rfl rfl hl.1 rfl (Nat.le_of_ble_eq_true rfl) dX10_person_49 ⟨Nat.zero_le _, Nat.zero_le _⟩ (fun H locs hH => ?_)
        have hH : gm_H (dC, dI) A s (wX10_person cI q q_now q_now_kind q_now_want q_draft q_images q_kinds q_text q_duel q_cover q_clashes q_tally q_sayableByPair q_chosenPairs q_now_ending q_now_meaning q_now_cost q_now_alikeTo q_now_saidAhead q_now_heardWord q_now_heardAnswer m_imagesKept m_bads m_nos m_fulls m_above m_below m_now_words o7.2.1 m_now_said m_now_undos m_now_heard o7.2.2.1 o7.2.2.2) H locs := hH
        obtain rfl := Option.some.inj h
        exact gm_iret C0 hH dX10_person_52
      · replace h := gm_neg hc6 h
        refine lv_aload_n hx hb dX10_person_36 rfl (lv_at hl 0 rfl) ?_
        refine lv_bipush (v := (-4)) hx hb dX10_person_37 (by decide) ?_
        obtain ⟨o8, ho8, h⟩ := gm_bind_e h
        refine gm_callV (As := [.int (-4)]) (rest := []) (n := 1) (ci := 10) (q0 := 0) C0 hH (mX10_refuse l dC dI  q q_now q_draft q_images q_kinds q_text q_duel q_cover q_clashes q_tally q_sayableByPair q_chosenPairs m_imagesKept m_bads m_nos m_fulls m_above m_below ((-4))   ho8) gX10_person_X10_refuse rfl (by decide +kernel) ⟨rfl, rfl, Nat.le_of_ble_eq_true rfl, Nat.le_of_ble_eq_true rfl⟩ gm_T_ok (fun _ => trivial) [0] rfl rfl rfl [] rfl rfl rfl rfl hl.1 rfl (Nat.le_of_ble_eq_true rfl) dX10_person_39 ⟨Nat.zero_le _, Nat.zero_le _⟩ (fun H locs hH => ?_)
        have hH : gm_H (dC, dI) A s (wX10_person cI q q_now q_now_kind q_now_want q_draft q_images q_kinds q_text q_duel q_cover q_clashes q_tally q_sayableByPair q_chosenPairs q_now_ending q_now_meaning q_now_cost q_now_alikeTo q_now_saidAhead q_now_heardWord q_now_heardAnswer m_imagesKept o8.2.1 o8.2.2.1 o8.2.2.2 m_above m_below m_now_words m_now_people m_now_said m_now_undos m_now_heard m_now_kind m_now_want) H locs := hH
        obtain rfl := Option.some.inj h
        exact gm_iret C0 hH dX10_person_42
    · replace h := gm_pos hc5 h
      exact tX10_person_b18 C0  h hH (lv_sub hl [0] rfl)

/-! X10_type -/
abbrev wX10_type (cI : ClassId) (q q_text q_text_bytes q_now q_draft q_images q_kinds q_duel q_cover q_clashes q_tally q_sayableByPair q_chosenPairs : Nat) (m_imagesKept : Int32) (m_bads : Int32) (m_nos : Int32) (m_fulls : Int32) (m_above : Int64) (m_below : Int64) (m_text_length : Int32) (m_text_items : Int32) (m_text_place : Int32) (m_text_start : Int32) (m_text_token : Int32) (m_text_number : Int32) (m_text_bytes : Nat → Int32) : va_W := [(q, .inr (10, [.ref q_now, .ref q_draft, .ref q_images, .int m_imagesKept, .ref q_kinds, .ref q_text, .ref q_duel, .ref q_cover, .int m_bads, .int m_nos, .int m_fulls, .long m_above, .long m_below, .ref q_clashes, .ref q_tally, .ref q_sayableByPair, .ref q_chosenPairs])), (q_text, .inr (6, [.ref q_text_bytes, .int m_text_length, .int m_text_items, .int m_text_place, .int m_text_start, .int m_text_token, .int m_text_number])), (q_text_bytes, .inl (cI, 150, .inl m_text_bytes))]
abbrev rX10_type : Room := { frames := 1, cells := 0, slots := 0, locals := 21 }
def fX10_type (N : Nat) (m_bads : Int32) (m_nos : Int32) (m_fulls : Int32) (m_text_length : Int32) (m_text_bytes : Nat → Int32) (x1 : Int32) : Option (Int32 × Int32 × Int32 × Int32 × Int32 × (Nat → Int32)) := gm_bind (fX10_fits N x1 128) (fun o1 => (if o1 = 0 then gm_bind (fX10_refuse N m_bads m_nos m_fulls ((-2))) (fun o6 => some (o6.1, o6.2.1, o6.2.2.1, o6.2.2.2, m_text_length, m_text_bytes)) else (if m_text_length < 150 then gm_bind (fX6_put N m_text_length m_text_bytes x1) (fun o4 => some (o4.1, m_bads, m_nos, m_fulls, o4.2.1, o4.2.2)) else gm_bind (fX10_refuse N m_bads m_nos m_fulls ((-4))) (fun o5 => some (o5.1, o5.2.1, o5.2.2.1, o5.2.2.2, m_text_length, m_text_bytes)))))
set_option maxRecDepth 20000 in
theorem inX10_type_X10 : ∀ w ∈ u_ws RX10 TX10 17, w ∈ wsX10_type := fun w h => by
  obtain ⟨k, hk, rfl⟩ := List.mem_map.mp h
  have hk2 := List.mem_range.mp hk
  exact List.mem_of_getElem? (i := 21 + k) (by rcases (show k = 0 ∨ k = 1 ∨ k = 2 ∨ k = 3 ∨ k = 4 ∨ k = 5 ∨ k = 6 ∨ k = 7 ∨ k = 8 ∨ k = 9 ∨ k = 10 ∨ k = 11 ∨ k = 12 ∨ k = 13 ∨ k = 14 ∨ k = 15 ∨ k = 16 by omega) with rfl | rfl | rfl | rfl | rfl | rfl | rfl | rfl | rfl | rfl | rfl | rfl | rfl | rfl | rfl | rfl | rfl <;> rfl)
set_option maxRecDepth 20000 in
theorem inX10_type_X6 : ∀ w ∈ u_ws RX6 TX6 7, w ∈ wsX10_type := fun w h => by
  obtain ⟨k, hk, rfl⟩ := List.mem_map.mp h
  have hk2 := List.mem_range.mp hk
  exact List.mem_of_getElem? (i := 38 + k) (by rcases (show k = 0 ∨ k = 1 ∨ k = 2 ∨ k = 3 ∨ k = 4 ∨ k = 5 ∨ k = 6 by omega) with rfl | rfl | rfl | rfl | rfl | rfl | rfl <;> rfl)
set_option maxRecDepth 100000 in
set_option maxHeartbeats 4000000 in
theorem mX10_type (l : Launch) (dC : Nat → ClassId) (dI : Nat → Nat → Nat) (cI : ClassId) (q q_text q_text_bytes q_now q_draft q_images q_kinds q_duel q_cover q_clashes q_tally q_sayableByPair q_chosenPairs : Nat) (m_imagesKept : Int32) (m_bads : Int32) (m_nos : Int32) (m_fulls : Int32) (m_above : Int64) (m_below : Int64) (m_text_length : Int32) (m_text_items : Int32) (m_text_place : Int32) (m_text_start : Int32) (m_text_token : Int32) (m_text_number : Int32) (m_text_bytes : Nat → Int32) (x1 : Int32)  {N : Nat} {out : Int32 × Int32 × Int32 × Int32 × Int32 × (Nat → Int32)} (h : fX10_type N m_bads m_nos m_fulls m_text_length m_text_bytes x1 = some out) : gm_Met l yX10_type wsX10_type rX10_type (dC, dI) [(cI, .int)] gm_T [.ref q, .int x1] (wX10_type cI q q_text q_text_bytes q_now q_draft q_images q_kinds q_duel q_cover q_clashes q_tally q_sayableByPair q_chosenPairs m_imagesKept m_bads m_nos m_fulls m_above m_below m_text_length m_text_items m_text_place m_text_start m_text_token m_text_number m_text_bytes) (some (.int out.1)) (wX10_type cI q q_text q_text_bytes q_now q_draft q_images q_kinds q_duel q_cover q_clashes q_tally q_sayableByPair q_chosenPairs m_imagesKept out.2.1 out.2.2.1 out.2.2.2.1 m_above m_below out.2.2.2.2.1 m_text_items m_text_place m_text_start m_text_token m_text_number out.2.2.2.2.2) := by
  refine gm_ofW (cc := cX10_type) (maxL := 2) (ret := (some .int)) (by decide +kernel) rfl (Nat.le_of_ble_eq_true rfl) ?_
  intro p e s m below meth c A C0 hH ls hl
  generalize ([.ref q, .int x1] : List Value).toArray = args at C0 ⊢
  have hl : lv_has ls 2 [(0, .ref q), (1, .int x1)] := hl
  generalize s.heap = H at hH ⊢
  generalize ([] : List Loc) = locs at hH ⊢
  obtain ⟨hx, hb, hml, hr, hown, hts, hA, hK, hX, hlocks⟩ := id C0
  unfold fX10_type at h
  refine lv_iload_n hx hb dX10_type_0 rfl (lv_at hl 1 rfl) ?_
  refine lv_sipush (v := 128) hx hb dX10_type_1 (by decide) ?_
  obtain ⟨o1, ho1, h⟩ := gm_bind_e h
  refine gm_callS (As := [.int x1, .int 128]) (rest := []) (n := 2) C0 hH (mX10_fits l dC dI    x1 128   ho1) gX10_type_X10_fits rfl (by decide +kernel) ⟨rfl, rfl, Nat.le_of_ble_eq_true rfl, Nat.le_of_ble_eq_true rfl⟩ gm_T_ok (fun _ => trivial) [] rfl rfl rfl [] rfl rfl hl.1 rfl (Nat.le_of_ble_eq_true rfl) dX10_type_4 ⟨Nat.zero_le _, Nat.zero_le _⟩ (fun H locs hH => ?_)
  have hH : gm_H (dC, dI) A s (wX10_type cI q q_text q_text_bytes q_now q_draft q_images q_kinds q_duel q_cover q_clashes q_tally q_sayableByPair q_chosenPairs m_imagesKept m_bads m_nos m_fulls m_above m_below m_text_length m_text_items m_text_place m_text_start m_text_token m_text_number m_text_bytes) H locs := hH
  refine lv_if_ne (tgt := 17) hx hb dX10_type_7 (by decide) (fun hc2 => ?_) (fun hc2 => ?_)
  · replace h := gm_neg hc2 h
    refine lv_aload_n hx hb dX10_type_17 rfl (lv_at hl 0 rfl) ?_
    refine gm_get (ci := 10) C0 hH inX10_type_X10 0 5 1 rfl rfl (by decide) rfl rfl dX10_type_18 ?_
    refine gm_get (ci := 6) C0 hH inX10_type_X6 1 1 2 rfl rfl (by decide) rfl rfl dX10_type_21 ?_
    refine lv_sipush (v := 150) hx hb dX10_type_24 (by decide) ?_
    refine lv_icmp_lt (tgt := 37) hx hb dX10_type_27 (by decide) (fun hc3 => ?_) (fun hc3 => ?_)
    · replace h := gm_pos hc3 h
      refine lv_aload_n hx hb dX10_type_37 rfl (lv_at hl 0 rfl) ?_
      refine gm_get (ci := 10) C0 hH inX10_type_X10 0 5 1 rfl rfl (by decide) rfl rfl dX10_type_38 ?_
      refine lv_iload_n hx hb dX10_type_41 rfl (lv_at hl 1 rfl) ?_
      obtain ⟨o4, ho4, h⟩ := gm_bind_e h
      refine gm_callV (As := [.int x1]) (rest := []) (n := 1) (ci := 6) (q0 := 1) C0 hH (mX6_put l dC dI cI q_text q_text_bytes m_text_length m_text_items m_text_place m_text_start m_text_token m_text_number m_text_bytes x1   ho4) gX10_type_X6_put rfl (by decide +kernel) ⟨rfl, rfl, Nat.le_of_ble_eq_true rfl, Nat.le_of_ble_eq_true rfl⟩ gm_T_ok (fun _ => trivial) [1, 2] rfl rfl rfl [0] rfl rfl rfl rfl hl.1 rfl (Nat.le_of_ble_eq_true rfl) dX10_type_42 ⟨Nat.zero_le _, Nat.zero_le _⟩ (fun H locs hH => ?_)
      have hH : gm_H (dC, dI) A s (wX10_type cI q q_text q_text_bytes q_now q_draft q_images q_kinds q_duel q_cover q_clashes q_tally q_sayableByPair q_chosenPairs m_imagesKept m_bads m_nos m_fulls m_above m_below o4.2.1 m_text_items m_text_place m_text_start m_text_token m_text_number o4.2.2) H locs := hH
      obtain rfl := Option.some.inj h
      exact gm_iret C0 hH dX10_type_45
    · replace h := gm_neg hc3 h
      refine lv_aload_n hx hb dX10_type_30 rfl (lv_at hl 0 rfl) ?_
      refine lv_bipush (v := (-4)) hx hb dX10_type_31 (by decide) ?_
      obtain ⟨o5, ho5, h⟩ := gm_bind_e h
      refine gm_callV (As := [.int (-4)]) (rest := []) (n := 1) (ci := 10) (q0 := 0) C0 hH (mX10_refuse l dC dI  q q_now q_draft q_images q_kinds q_text q_duel q_cover q_clashes q_tally q_sayableByPair q_chosenPairs m_imagesKept m_bads m_nos m_fulls m_above m_below ((-4))   ho5) gX10_type_X10_refuse rfl (by decide +kernel) ⟨rfl, rfl, Nat.le_of_ble_eq_true rfl, Nat.le_of_ble_eq_true rfl⟩ gm_T_ok (fun _ => trivial) [0] rfl rfl rfl [] rfl rfl rfl rfl hl.1 rfl (Nat.le_of_ble_eq_true rfl) dX10_type_33 ⟨Nat.zero_le _, Nat.zero_le _⟩ (fun H locs hH => ?_)
      have hH : gm_H (dC, dI) A s (wX10_type cI q q_text q_text_bytes q_now q_draft q_images q_kinds q_duel q_cover q_clashes q_tally q_sayableByPair q_chosenPairs m_imagesKept o5.2.1 o5.2.2.1 o5.2.2.2 m_above m_below m_text_length m_text_items m_text_place m_text_start m_text_token m_text_number m_text_bytes) H locs := hH
      obtain rfl := Option.some.inj h
      exact gm_iret C0 hH dX10_type_36
  · replace h := gm_pos hc2 h
    refine lv_aload_n hx hb dX10_type_10 rfl (lv_at hl 0 rfl) ?_
    refine lv_bipush (v := (-2)) hx hb dX10_type_11 (by decide) ?_
    obtain ⟨o6, ho6, h⟩ := gm_bind_e h
    refine gm_callV (As := [.int (-2)]) (rest := []) (n := 1) (ci := 10) (q0 := 0) C0 hH (mX10_refuse l dC dI  q q_now q_draft q_images q_kinds q_text q_duel q_cover q_clashes q_tally q_sayableByPair q_chosenPairs m_imagesKept m_bads m_nos m_fulls m_above m_below ((-2))   ho6) gX10_type_X10_refuse rfl (by decide +kernel) ⟨rfl, rfl, Nat.le_of_ble_eq_true rfl, Nat.le_of_ble_eq_true rfl⟩ gm_T_ok (fun _ => trivial) [0] rfl rfl rfl [] rfl rfl rfl rfl hl.1 rfl (Nat.le_of_ble_eq_true rfl) dX10_type_13 ⟨Nat.zero_le _, Nat.zero_le _⟩ (fun H locs hH => ?_)
    have hH : gm_H (dC, dI) A s (wX10_type cI q q_text q_text_bytes q_now q_draft q_images q_kinds q_duel q_cover q_clashes q_tally q_sayableByPair q_chosenPairs m_imagesKept o6.2.1 o6.2.2.1 o6.2.2.2 m_above m_below m_text_length m_text_items m_text_place m_text_start m_text_token m_text_number m_text_bytes) H locs := hH
    obtain rfl := Option.some.inj h
    exact gm_iret C0 hH dX10_type_16

/-! X10_clear -/
abbrev wX10_clear (q q_text q_now q_draft q_images q_kinds q_duel q_cover q_clashes q_tally q_sayableByPair q_chosenPairs q_text_bytes : Nat) (m_imagesKept : Int32) (m_bads : Int32) (m_nos : Int32) (m_fulls : Int32) (m_above : Int64) (m_below : Int64) (m_text_length : Int32) (m_text_items : Int32) (m_text_place : Int32) (m_text_start : Int32) (m_text_token : Int32) (m_text_number : Int32) : va_W := [(q, .inr (10, [.ref q_now, .ref q_draft, .ref q_images, .int m_imagesKept, .ref q_kinds, .ref q_text, .ref q_duel, .ref q_cover, .int m_bads, .int m_nos, .int m_fulls, .long m_above, .long m_below, .ref q_clashes, .ref q_tally, .ref q_sayableByPair, .ref q_chosenPairs])), (q_text, .inr (6, [.ref q_text_bytes, .int m_text_length, .int m_text_items, .int m_text_place, .int m_text_start, .int m_text_token, .int m_text_number]))]
abbrev rX10_clear : Room := { frames := 0, cells := 0, slots := 0, locals := 0 }
def fX10_clear (N : Nat) (m_text_length : Int32)  : Option (Int32 × Int32) := some (m_text_length, 0)
set_option maxRecDepth 20000 in
theorem inX10_clear_X10 : ∀ w ∈ u_ws RX10 TX10 17, w ∈ wsX10_clear := fun w h => by
  obtain ⟨k, hk, rfl⟩ := List.mem_map.mp h
  have hk2 := List.mem_range.mp hk
  exact List.mem_of_getElem? (i := 3 + k) (by rcases (show k = 0 ∨ k = 1 ∨ k = 2 ∨ k = 3 ∨ k = 4 ∨ k = 5 ∨ k = 6 ∨ k = 7 ∨ k = 8 ∨ k = 9 ∨ k = 10 ∨ k = 11 ∨ k = 12 ∨ k = 13 ∨ k = 14 ∨ k = 15 ∨ k = 16 by omega) with rfl | rfl | rfl | rfl | rfl | rfl | rfl | rfl | rfl | rfl | rfl | rfl | rfl | rfl | rfl | rfl | rfl <;> rfl)
set_option maxRecDepth 20000 in
theorem inX10_clear_X6 : ∀ w ∈ u_ws RX6 TX6 7, w ∈ wsX10_clear := fun w h => by
  obtain ⟨k, hk, rfl⟩ := List.mem_map.mp h
  have hk2 := List.mem_range.mp hk
  exact List.mem_of_getElem? (i := 20 + k) (by rcases (show k = 0 ∨ k = 1 ∨ k = 2 ∨ k = 3 ∨ k = 4 ∨ k = 5 ∨ k = 6 by omega) with rfl | rfl | rfl | rfl | rfl | rfl | rfl <;> rfl)
set_option maxRecDepth 100000 in
set_option maxHeartbeats 4000000 in
theorem mX10_clear (l : Launch) (dC : Nat → ClassId) (dI : Nat → Nat → Nat) (q q_text q_now q_draft q_images q_kinds q_duel q_cover q_clashes q_tally q_sayableByPair q_chosenPairs q_text_bytes : Nat) (m_imagesKept : Int32) (m_bads : Int32) (m_nos : Int32) (m_fulls : Int32) (m_above : Int64) (m_below : Int64) (m_text_length : Int32) (m_text_items : Int32) (m_text_place : Int32) (m_text_start : Int32) (m_text_token : Int32) (m_text_number : Int32)   {N : Nat} {out : Int32 × Int32} (h : fX10_clear N m_text_length = some out) : gm_Met l yX10_clear wsX10_clear rX10_clear (dC, dI) [] gm_T [.ref q] (wX10_clear  q q_text q_now q_draft q_images q_kinds q_duel q_cover q_clashes q_tally q_sayableByPair q_chosenPairs q_text_bytes m_imagesKept m_bads m_nos m_fulls m_above m_below m_text_length m_text_items m_text_place m_text_start m_text_token m_text_number) (some (.int out.1)) (wX10_clear  q q_text q_now q_draft q_images q_kinds q_duel q_cover q_clashes q_tally q_sayableByPair q_chosenPairs q_text_bytes m_imagesKept m_bads m_nos m_fulls m_above m_below out.2 m_text_items m_text_place m_text_start m_text_token m_text_number) := by
  refine gm_ofW (cc := cX10_clear) (maxL := 2) (ret := (some .int)) (by decide +kernel) rfl (Nat.le_of_ble_eq_true rfl) ?_
  intro p e s m below meth c A C0 hH ls hl
  generalize ([.ref q] : List Value).toArray = args at C0 ⊢
  have hl : lv_has ls 2 [(0, .ref q)] := hl
  generalize s.heap = H at hH ⊢
  generalize ([] : List Loc) = locs at hH ⊢
  obtain ⟨hx, hb, hml, hr, hown, hts, hA, hK, hX, hlocks⟩ := id C0
  unfold fX10_clear at h
  refine lv_aload_n hx hb dX10_clear_0 rfl (lv_at hl 0 rfl) ?_
  refine gm_get (ci := 10) C0 hH inX10_clear_X10 0 5 1 rfl rfl (by decide) rfl rfl dX10_clear_1 ?_
  refine gm_get (ci := 6) C0 hH inX10_clear_X6 1 1 2 rfl rfl (by decide) rfl rfl dX10_clear_4 ?_
  refine lv_istore_n (lv' := [(1, .int m_text_length), (0, .ref q)]) hx hb dX10_clear_7 rfl hl (by decide) rfl (fun ls hl => ?_)
  refine lv_aload_n hx hb dX10_clear_8 rfl (lv_at hl 1 rfl) ?_
  refine gm_get (ci := 10) C0 hH inX10_clear_X10 0 5 1 rfl rfl (by decide) rfl rfl dX10_clear_9 ?_
  refine lv_iconst (v := 0) hx hb dX10_clear_12 (by decide) ?_
  refine gm_putf (ci := 6) C0 hH inX10_clear_X6 tyX6_ok nmX6 1 1 2 rfl rfl (by decide) rfl rfl rfl rfl rfl (Nat.le_of_ble_eq_true rfl) dX10_clear_13 (fun H locs hH => ?_)
  have hH : gm_H (dC, dI) A s (wX10_clear  q q_text q_now q_draft q_images q_kinds q_duel q_cover q_clashes q_tally q_sayableByPair q_chosenPairs q_text_bytes m_imagesKept m_bads m_nos m_fulls m_above m_below 0 m_text_items m_text_place m_text_start m_text_token m_text_number) H locs := hH
  refine lv_iload_n hx hb dX10_clear_16 rfl (lv_at hl 0 rfl) ?_
  obtain rfl := Option.some.inj h
  exact gm_iret C0 hH dX10_clear_17

/-! X10_read -/
abbrev wX10_read (cI : ClassId) (q q_now q_now_ending q_now_meaning q_now_cost q_now_alikeTo q_now_kind q_now_want q_now_saidAhead q_now_heardWord q_now_heardAnswer q_draft q_draft_ending q_draft_meaning q_draft_cost q_draft_alikeTo q_draft_kind q_draft_want q_draft_saidAhead q_draft_heardWord q_draft_heardAnswer q_text q_text_bytes q_images q_kinds q_duel q_cover q_clashes q_tally q_sayableByPair q_chosenPairs : Nat) (m_imagesKept : Int32) (m_bads : Int32) (m_nos : Int32) (m_fulls : Int32) (m_above : Int64) (m_below : Int64) (m_now_words : Int32) (m_now_people : Int32) (m_now_said : Int32) (m_now_undos : Int32) (m_now_heard : Int32) (m_now_ending : Nat → Int32) (m_now_meaning : Nat → Int32) (m_now_cost : Nat → Int32) (m_now_alikeTo : Nat → Int32) (m_now_kind : Nat → Int32) (m_now_want : Nat → Int32) (m_now_saidAhead : Nat → Int32) (m_now_heardWord : Nat → Int32) (m_now_heardAnswer : Nat → Int32) (m_draft_words : Int32) (m_draft_people : Int32) (m_draft_said : Int32) (m_draft_undos : Int32) (m_draft_heard : Int32) (m_draft_ending : Nat → Int32) (m_draft_meaning : Nat → Int32) (m_draft_cost : Nat → Int32) (m_draft_alikeTo : Nat → Int32) (m_draft_kind : Nat → Int32) (m_draft_want : Nat → Int32) (m_draft_saidAhead : Nat → Int32) (m_draft_heardWord : Nat → Int32) (m_draft_heardAnswer : Nat → Int32) (m_text_length : Int32) (m_text_items : Int32) (m_text_place : Int32) (m_text_start : Int32) (m_text_token : Int32) (m_text_number : Int32) (m_text_bytes : Nat → Int32) : va_W := [(q, .inr (10, [.ref q_now, .ref q_draft, .ref q_images, .int m_imagesKept, .ref q_kinds, .ref q_text, .ref q_duel, .ref q_cover, .int m_bads, .int m_nos, .int m_fulls, .long m_above, .long m_below, .ref q_clashes, .ref q_tally, .ref q_sayableByPair, .ref q_chosenPairs])), (q_now, .inr (9, [.ref q_now_ending, .ref q_now_meaning, .ref q_now_cost, .int m_now_words, .ref q_now_alikeTo, .ref q_now_kind, .ref q_now_want, .int m_now_people, .int m_now_said, .ref q_now_saidAhead, .int m_now_undos, .ref q_now_heardWord, .ref q_now_heardAnswer, .int m_now_heard])), (q_now_ending, .inl (cI, 10, .inl m_now_ending)), (q_now_meaning, .inl (cI, 10, .inl m_now_meaning)), (q_now_cost, .inl (cI, 10, .inl m_now_cost)), (q_now_alikeTo, .inl (cI, 8, .inl m_now_alikeTo)), (q_now_kind, .inl (cI, 5, .inl m_now_kind)), (q_now_want, .inl (cI, 5, .inl m_now_want)), (q_now_saidAhead, .inl (cI, 8, .inl m_now_saidAhead)), (q_now_heardWord, .inl (cI, 6, .inl m_now_heardWord)), (q_now_heardAnswer, .inl (cI, 6, .inl m_now_heardAnswer)), (q_draft, .inr (9, [.ref q_draft_ending, .ref q_draft_meaning, .ref q_draft_cost, .int m_draft_words, .ref q_draft_alikeTo, .ref q_draft_kind, .ref q_draft_want, .int m_draft_people, .int m_draft_said, .ref q_draft_saidAhead, .int m_draft_undos, .ref q_draft_heardWord, .ref q_draft_heardAnswer, .int m_draft_heard])), (q_draft_ending, .inl (cI, 10, .inl m_draft_ending)), (q_draft_meaning, .inl (cI, 10, .inl m_draft_meaning)), (q_draft_cost, .inl (cI, 10, .inl m_draft_cost)), (q_draft_alikeTo, .inl (cI, 8, .inl m_draft_alikeTo)), (q_draft_kind, .inl (cI, 5, .inl m_draft_kind)), (q_draft_want, .inl (cI, 5, .inl m_draft_want)), (q_draft_saidAhead, .inl (cI, 8, .inl m_draft_saidAhead)), (q_draft_heardWord, .inl (cI, 6, .inl m_draft_heardWord)), (q_draft_heardAnswer, .inl (cI, 6, .inl m_draft_heardAnswer)), (q_text, .inr (6, [.ref q_text_bytes, .int m_text_length, .int m_text_items, .int m_text_place, .int m_text_start, .int m_text_token, .int m_text_number])), (q_text_bytes, .inl (cI, 150, .inl m_text_bytes))]
abbrev rX10_read : Room := { frames := 7, cells := 0, slots := 0, locals := 150 }
def fX10_read (N : Nat) (m_now_words : Int32) (m_now_people : Int32) (m_now_said : Int32) (m_now_undos : Int32) (m_now_heard : Int32) (m_now_ending : Nat → Int32) (m_now_meaning : Nat → Int32) (m_now_cost : Nat → Int32) (m_now_alikeTo : Nat → Int32) (m_now_kind : Nat → Int32) (m_now_want : Nat → Int32) (m_now_saidAhead : Nat → Int32) (m_now_heardWord : Nat → Int32) (m_now_heardAnswer : Nat → Int32) (m_draft_words : Int32) (m_draft_people : Int32) (m_draft_said : Int32) (m_draft_undos : Int32) (m_draft_heard : Int32) (m_draft_ending : Nat → Int32) (m_draft_meaning : Nat → Int32) (m_draft_cost : Nat → Int32) (m_draft_alikeTo : Nat → Int32) (m_draft_kind : Nat → Int32) (m_draft_want : Nat → Int32) (m_draft_saidAhead : Nat → Int32) (m_draft_heardWord : Nat → Int32) (m_draft_heardAnswer : Nat → Int32) (m_text_length : Int32) (m_text_items : Int32) (m_text_place : Int32) (m_text_start : Int32) (m_text_token : Int32) (m_text_number : Int32) (m_text_bytes : Nat → Int32)  : Option (Int32 × Int32 × Int32 × Int32 × Int32 × Int32 × (Nat → Int32) × (Nat → Int32) × (Nat → Int32) × (Nat → Int32) × (Nat → Int32) × (Nat → Int32) × (Nat → Int32) × (Nat → Int32) × (Nat → Int32) × Int32 × Int32 × Int32 × Int32 × Int32 × (Nat → Int32) × (Nat → Int32) × (Nat → Int32) × (Nat → Int32) × (Nat → Int32) × (Nat → Int32) × Int32 × Int32 × Int32 × Int32 × Int32) := gm_bind (fX6_parseInto N m_text_length m_text_items m_text_place m_text_start m_text_token m_text_number m_text_bytes m_draft_words m_draft_people m_draft_said m_draft_undos m_draft_heard m_draft_ending m_draft_meaning m_draft_cost m_draft_alikeTo m_draft_kind m_draft_want) (fun o1 => (if o1.1 = (-1) then gm_bind (fX9_copyFrom N m_now_words m_now_people m_now_said m_now_undos m_now_heard m_now_ending m_now_meaning m_now_cost m_now_alikeTo m_now_kind m_now_want m_now_saidAhead m_now_heardWord m_now_heardAnswer o1.2.2.2.2.2.2.1 o1.2.2.2.2.2.2.2.1 o1.2.2.2.2.2.2.2.2.1 o1.2.2.2.2.2.2.2.2.2.1 o1.2.2.2.2.2.2.2.2.2.2.1 o1.2.2.2.2.2.2.2.2.2.2.2.1 o1.2.2.2.2.2.2.2.2.2.2.2.2.1 o1.2.2.2.2.2.2.2.2.2.2.2.2.2.1 o1.2.2.2.2.2.2.2.2.2.2.2.2.2.2.1 o1.2.2.2.2.2.2.2.2.2.2.2.2.2.2.2.1 o1.2.2.2.2.2.2.2.2.2.2.2.2.2.2.2.2 m_draft_saidAhead m_draft_heardWord m_draft_heardAnswer) (fun o3 => some (o1.2.1, o3.1, o3.2.1, o3.2.2.1, o3.2.2.2.1, o3.2.2.2.2.1, o3.2.2.2.2.2.1, o3.2.2.2.2.2.2.1, o3.2.2.2.2.2.2.2.1, o3.2.2.2.2.2.2.2.2.1, o3.2.2.2.2.2.2.2.2.2.1, o3.2.2.2.2.2.2.2.2.2.2.1, o3.2.2.2.2.2.2.2.2.2.2.2.1, o3.2.2.2.2.2.2.2.2.2.2.2.2.1, o3.2.2.2.2.2.2.2.2.2.2.2.2.2, o1.2.2.2.2.2.2.1, o1.2.2.2.2.2.2.2.1, o1.2.2.2.2.2.2.2.2.1, o1.2.2.2.2.2.2.2.2.2.1, o1.2.2.2.2.2.2.2.2.2.2.1, o1.2.2.2.2.2.2.2.2.2.2.2.1, o1.2.2.2.2.2.2.2.2.2.2.2.2.1, o1.2.2.2.2.2.2.2.2.2.2.2.2.2.1, o1.2.2.2.2.2.2.2.2.2.2.2.2.2.2.1, o1.2.2.2.2.2.2.2.2.2.2.2.2.2.2.2.1, o1.2.2.2.2.2.2.2.2.2.2.2.2.2.2.2.2, o1.2.1, o1.2.2.1, o1.2.2.2.1, o1.2.2.2.2.1, o1.2.2.2.2.2.1)) else some (((-10) - o1.1), m_now_words, m_now_people, m_now_said, m_now_undos, m_now_heard, m_now_ending, m_now_meaning, m_now_cost, m_now_alikeTo, m_now_kind, m_now_want, m_now_saidAhead, m_now_heardWord, m_now_heardAnswer, o1.2.2.2.2.2.2.1, o1.2.2.2.2.2.2.2.1, o1.2.2.2.2.2.2.2.2.1, o1.2.2.2.2.2.2.2.2.2.1, o1.2.2.2.2.2.2.2.2.2.2.1, o1.2.2.2.2.2.2.2.2.2.2.2.1, o1.2.2.2.2.2.2.2.2.2.2.2.2.1, o1.2.2.2.2.2.2.2.2.2.2.2.2.2.1, o1.2.2.2.2.2.2.2.2.2.2.2.2.2.2.1, o1.2.2.2.2.2.2.2.2.2.2.2.2.2.2.2.1, o1.2.2.2.2.2.2.2.2.2.2.2.2.2.2.2.2, o1.2.1, o1.2.2.1, o1.2.2.2.1, o1.2.2.2.2.1, o1.2.2.2.2.2.1)))
set_option maxRecDepth 20000 in
theorem inX10_read_X10 : ∀ w ∈ u_ws RX10 TX10 17, w ∈ wsX10_read := fun w h => by
  obtain ⟨k, hk, rfl⟩ := List.mem_map.mp h
  have hk2 := List.mem_range.mp hk
  exact List.mem_of_getElem? (i := 146 + k) (by rcases (show k = 0 ∨ k = 1 ∨ k = 2 ∨ k = 3 ∨ k = 4 ∨ k = 5 ∨ k = 6 ∨ k = 7 ∨ k = 8 ∨ k = 9 ∨ k = 10 ∨ k = 11 ∨ k = 12 ∨ k = 13 ∨ k = 14 ∨ k = 15 ∨ k = 16 by omega) with rfl | rfl | rfl | rfl | rfl | rfl | rfl | rfl | rfl | rfl | rfl | rfl | rfl | rfl | rfl | rfl | rfl <;> rfl)
set_option maxRecDepth 20000 in
theorem inX10_read_X6 : ∀ w ∈ u_ws RX6 TX6 7, w ∈ wsX10_read := fun w h => by
  obtain ⟨k, hk, rfl⟩ := List.mem_map.mp h
  have hk2 := List.mem_range.mp hk
  exact List.mem_of_getElem? (i := 163 + k) (by rcases (show k = 0 ∨ k = 1 ∨ k = 2 ∨ k = 3 ∨ k = 4 ∨ k = 5 ∨ k = 6 by omega) with rfl | rfl | rfl | rfl | rfl | rfl | rfl <;> rfl)
set_option maxRecDepth 20000 in
theorem inX10_read_X9 : ∀ w ∈ u_ws RX9 TX9 14, w ∈ wsX10_read := fun w h => by
  obtain ⟨k, hk, rfl⟩ := List.mem_map.mp h
  have hk2 := List.mem_range.mp hk
  exact List.mem_of_getElem? (i := 170 + k) (by rcases (show k = 0 ∨ k = 1 ∨ k = 2 ∨ k = 3 ∨ k = 4 ∨ k = 5 ∨ k = 6 ∨ k = 7 ∨ k = 8 ∨ k = 9 ∨ k = 10 ∨ k = 11 ∨ k = 12 ∨ k = 13 by omega) with rfl | rfl | rfl | rfl | rfl | rfl | rfl | rfl | rfl | rfl | rfl | rfl | rfl | rfl <;> rfl)
set_option maxRecDepth 100000 in
set_option maxHeartbeats 4000000 in
theorem mX10_read (l : Launch) (dC : Nat → ClassId) (dI : Nat → Nat → Nat) (cI : ClassId) (q q_now q_now_ending q_now_meaning q_now_cost q_now_alikeTo q_now_kind q_now_want q_now_saidAhead q_now_heardWord q_now_heardAnswer q_draft q_draft_ending q_draft_meaning q_draft_cost q_draft_alikeTo q_draft_kind q_draft_want q_draft_saidAhead q_draft_heardWord q_draft_heardAnswer q_text q_text_bytes q_images q_kinds q_duel q_cover q_clashes q_tally q_sayableByPair q_chosenPairs : Nat) (m_imagesKept : Int32) (m_bads : Int32) (m_nos : Int32) (m_fulls : Int32) (m_above : Int64) (m_below : Int64) (m_now_words : Int32) (m_now_people : Int32) (m_now_said : Int32) (m_now_undos : Int32) (m_now_heard : Int32) (m_now_ending : Nat → Int32) (m_now_meaning : Nat → Int32) (m_now_cost : Nat → Int32) (m_now_alikeTo : Nat → Int32) (m_now_kind : Nat → Int32) (m_now_want : Nat → Int32) (m_now_saidAhead : Nat → Int32) (m_now_heardWord : Nat → Int32) (m_now_heardAnswer : Nat → Int32) (m_draft_words : Int32) (m_draft_people : Int32) (m_draft_said : Int32) (m_draft_undos : Int32) (m_draft_heard : Int32) (m_draft_ending : Nat → Int32) (m_draft_meaning : Nat → Int32) (m_draft_cost : Nat → Int32) (m_draft_alikeTo : Nat → Int32) (m_draft_kind : Nat → Int32) (m_draft_want : Nat → Int32) (m_draft_saidAhead : Nat → Int32) (m_draft_heardWord : Nat → Int32) (m_draft_heardAnswer : Nat → Int32) (m_text_length : Int32) (m_text_items : Int32) (m_text_place : Int32) (m_text_start : Int32) (m_text_token : Int32) (m_text_number : Int32) (m_text_bytes : Nat → Int32)  (adK adV : Nat → Nat)  {N : Nat} {out : Int32 × Int32 × Int32 × Int32 × Int32 × Int32 × (Nat → Int32) × (Nat → Int32) × (Nat → Int32) × (Nat → Int32) × (Nat → Int32) × (Nat → Int32) × (Nat → Int32) × (Nat → Int32) × (Nat → Int32) × Int32 × Int32 × Int32 × Int32 × Int32 × (Nat → Int32) × (Nat → Int32) × (Nat → Int32) × (Nat → Int32) × (Nat → Int32) × (Nat → Int32) × Int32 × Int32 × Int32 × Int32 × Int32} (h : fX10_read N m_now_words m_now_people m_now_said m_now_undos m_now_heard m_now_ending m_now_meaning m_now_cost m_now_alikeTo m_now_kind m_now_want m_now_saidAhead m_now_heardWord m_now_heardAnswer m_draft_words m_draft_people m_draft_said m_draft_undos m_draft_heard m_draft_ending m_draft_meaning m_draft_cost m_draft_alikeTo m_draft_kind m_draft_want m_draft_saidAhead m_draft_heardWord m_draft_heardAnswer m_text_length m_text_items m_text_place m_text_start m_text_token m_text_number m_text_bytes = some out) : gm_Met l yX10_read wsX10_read rX10_read (dC, dI) [(cI, .int)] (gm_XR adK adV) [.ref q] (wX10_read cI q q_now q_now_ending q_now_meaning q_now_cost q_now_alikeTo q_now_kind q_now_want q_now_saidAhead q_now_heardWord q_now_heardAnswer q_draft q_draft_ending q_draft_meaning q_draft_cost q_draft_alikeTo q_draft_kind q_draft_want q_draft_saidAhead q_draft_heardWord q_draft_heardAnswer q_text q_text_bytes q_images q_kinds q_duel q_cover q_clashes q_tally q_sayableByPair q_chosenPairs m_imagesKept m_bads m_nos m_fulls m_above m_below m_now_words m_now_people m_now_said m_now_undos m_now_heard m_now_ending m_now_meaning m_now_cost m_now_alikeTo m_now_kind m_now_want m_now_saidAhead m_now_heardWord m_now_heardAnswer m_draft_words m_draft_people m_draft_said m_draft_undos m_draft_heard m_draft_ending m_draft_meaning m_draft_cost m_draft_alikeTo m_draft_kind m_draft_want m_draft_saidAhead m_draft_heardWord m_draft_heardAnswer m_text_length m_text_items m_text_place m_text_start m_text_token m_text_number m_text_bytes) (some (.int out.1)) (wX10_read cI q q_now q_now_ending q_now_meaning q_now_cost q_now_alikeTo q_now_kind q_now_want q_now_saidAhead q_now_heardWord q_now_heardAnswer q_draft q_draft_ending q_draft_meaning q_draft_cost q_draft_alikeTo q_draft_kind q_draft_want q_draft_saidAhead q_draft_heardWord q_draft_heardAnswer q_text q_text_bytes q_images q_kinds q_duel q_cover q_clashes q_tally q_sayableByPair q_chosenPairs m_imagesKept m_bads m_nos m_fulls m_above m_below out.2.1 out.2.2.1 out.2.2.2.1 out.2.2.2.2.1 out.2.2.2.2.2.1 out.2.2.2.2.2.2.1 out.2.2.2.2.2.2.2.1 out.2.2.2.2.2.2.2.2.1 out.2.2.2.2.2.2.2.2.2.1 out.2.2.2.2.2.2.2.2.2.2.1 out.2.2.2.2.2.2.2.2.2.2.2.1 out.2.2.2.2.2.2.2.2.2.2.2.2.1 out.2.2.2.2.2.2.2.2.2.2.2.2.2.1 out.2.2.2.2.2.2.2.2.2.2.2.2.2.2.1 out.2.2.2.2.2.2.2.2.2.2.2.2.2.2.2.1 out.2.2.2.2.2.2.2.2.2.2.2.2.2.2.2.2.1 out.2.2.2.2.2.2.2.2.2.2.2.2.2.2.2.2.2.1 out.2.2.2.2.2.2.2.2.2.2.2.2.2.2.2.2.2.2.1 out.2.2.2.2.2.2.2.2.2.2.2.2.2.2.2.2.2.2.2.1 out.2.2.2.2.2.2.2.2.2.2.2.2.2.2.2.2.2.2.2.2.1 out.2.2.2.2.2.2.2.2.2.2.2.2.2.2.2.2.2.2.2.2.2.1 out.2.2.2.2.2.2.2.2.2.2.2.2.2.2.2.2.2.2.2.2.2.2.1 out.2.2.2.2.2.2.2.2.2.2.2.2.2.2.2.2.2.2.2.2.2.2.2.1 out.2.2.2.2.2.2.2.2.2.2.2.2.2.2.2.2.2.2.2.2.2.2.2.2.1 out.2.2.2.2.2.2.2.2.2.2.2.2.2.2.2.2.2.2.2.2.2.2.2.2.2.1 m_draft_saidAhead m_draft_heardWord m_draft_heardAnswer m_text_length out.2.2.2.2.2.2.2.2.2.2.2.2.2.2.2.2.2.2.2.2.2.2.2.2.2.2.1 out.2.2.2.2.2.2.2.2.2.2.2.2.2.2.2.2.2.2.2.2.2.2.2.2.2.2.2.1 out.2.2.2.2.2.2.2.2.2.2.2.2.2.2.2.2.2.2.2.2.2.2.2.2.2.2.2.2.1 out.2.2.2.2.2.2.2.2.2.2.2.2.2.2.2.2.2.2.2.2.2.2.2.2.2.2.2.2.2.1 out.2.2.2.2.2.2.2.2.2.2.2.2.2.2.2.2.2.2.2.2.2.2.2.2.2.2.2.2.2.2 m_text_bytes) := by
  refine gm_ofW (cc := cX10_read) (maxL := 2) (ret := (some .int)) (by decide +kernel) rfl (Nat.le_of_ble_eq_true rfl) ?_
  intro p e s m below meth c A C0 hH ls hl
  generalize ([.ref q] : List Value).toArray = args at C0 ⊢
  have hl : lv_has ls 2 [(0, .ref q)] := hl
  generalize s.heap = H at hH ⊢
  generalize ([] : List Loc) = locs at hH ⊢
  obtain ⟨hx, hb, hml, hr, hown, hts, hA, hK, hX, hlocks⟩ := id C0
  unfold fX10_read at h
  refine lv_aload_n hx hb dX10_read_0 rfl (lv_at hl 0 rfl) ?_
  refine gm_get (ci := 10) C0 hH inX10_read_X10 0 5 1 rfl rfl (by decide) rfl rfl dX10_read_1 ?_
  refine lv_aload_n hx hb dX10_read_4 rfl (lv_at hl 0 rfl) ?_
  refine gm_get (ci := 10) C0 hH inX10_read_X10 0 1 2 rfl rfl (by decide) rfl rfl dX10_read_5 ?_
  obtain ⟨o1, ho1, h⟩ := gm_bind_e h
  refine gm_callV (As := [.ref q_draft]) (rest := []) (n := 1) (ci := 6) (q0 := 21) C0 hH (mX6_parseInto l dC dI cI q_text q_text_bytes q_draft q_draft_ending q_draft_meaning q_draft_cost q_draft_alikeTo q_draft_kind q_draft_want q_draft_saidAhead q_draft_heardWord q_draft_heardAnswer m_text_length m_text_items m_text_place m_text_start m_text_token m_text_number m_text_bytes m_draft_words m_draft_people m_draft_said m_draft_undos m_draft_heard m_draft_ending m_draft_meaning m_draft_cost m_draft_alikeTo m_draft_kind m_draft_want  adK adV  ho1) gX10_read_X6_parseInto rfl (by decide +kernel) ⟨rfl, rfl, Nat.le_of_ble_eq_true rfl, Nat.le_of_ble_eq_true rfl⟩ (gm_XR_ok adK adV) (fun h => h) [21, 22, 11, 12, 13, 14, 15, 16, 17] rfl rfl rfl [0] rfl rfl rfl rfl hl.1 rfl (Nat.le_of_ble_eq_true rfl) dX10_read_8 ⟨Nat.zero_le _, Nat.zero_le _⟩ (fun H locs hH => ?_)
  simp only [wX10_read, wX6_parseInto, gm_sets, List.set_cons_succ, List.set_cons_zero] at hH
  have hH : gm_H (dC, dI) A s (wX10_read cI q q_now q_now_ending q_now_meaning q_now_cost q_now_alikeTo q_now_kind q_now_want q_now_saidAhead q_now_heardWord q_now_heardAnswer q_draft q_draft_ending q_draft_meaning q_draft_cost q_draft_alikeTo q_draft_kind q_draft_want q_draft_saidAhead q_draft_heardWord q_draft_heardAnswer q_text q_text_bytes q_images q_kinds q_duel q_cover q_clashes q_tally q_sayableByPair q_chosenPairs m_imagesKept m_bads m_nos m_fulls m_above m_below m_now_words m_now_people m_now_said m_now_undos m_now_heard m_now_ending m_now_meaning m_now_cost m_now_alikeTo m_now_kind m_now_want m_now_saidAhead m_now_heardWord m_now_heardAnswer o1.2.2.2.2.2.2.1 o1.2.2.2.2.2.2.2.1 o1.2.2.2.2.2.2.2.2.1 o1.2.2.2.2.2.2.2.2.2.1 o1.2.2.2.2.2.2.2.2.2.2.1 o1.2.2.2.2.2.2.2.2.2.2.2.1 o1.2.2.2.2.2.2.2.2.2.2.2.2.1 o1.2.2.2.2.2.2.2.2.2.2.2.2.2.1 o1.2.2.2.2.2.2.2.2.2.2.2.2.2.2.1 o1.2.2.2.2.2.2.2.2.2.2.2.2.2.2.2.1 o1.2.2.2.2.2.2.2.2.2.2.2.2.2.2.2.2 m_draft_saidAhead m_draft_heardWord m_draft_heardAnswer m_text_length o1.2.1 o1.2.2.1 o1.2.2.2.1 o1.2.2.2.2.1 o1.2.2.2.2.2.1 m_text_bytes) H locs := hH
  refine lv_istore_n (lv' := [(1, .int o1.1), (0, .ref q)]) hx hb dX10_read_11 rfl hl (by decide) rfl (fun ls hl => ?_)
  refine lv_iload_n hx hb dX10_read_12 rfl (lv_at hl 0 rfl) ?_
  refine lv_iconst (v := (-1)) hx hb dX10_read_13 (by decide) ?_
  refine lv_icmp_eq (tgt := 22) hx hb dX10_read_14 (by decide) (fun hc2 => ?_) (fun hc2 => ?_)
  · replace h := gm_pos hc2 h
    refine lv_aload_n hx hb dX10_read_22 rfl (lv_at hl 1 rfl) ?_
    refine gm_get (ci := 10) C0 hH inX10_read_X10 0 0 3 rfl rfl (by decide) rfl rfl dX10_read_23 ?_
    refine lv_aload_n hx hb dX10_read_26 rfl (lv_at hl 1 rfl) ?_
    refine gm_get (ci := 10) C0 hH inX10_read_X10 0 1 2 rfl rfl (by decide) rfl rfl dX10_read_27 ?_
    obtain ⟨o3, ho3, h⟩ := gm_bind_e h
    refine gm_callV (As := [.ref q_draft]) (rest := []) (n := 1) (ci := 9) (q0 := 1) C0 hH (mX9_copyFrom l dC dI cI q_now q_now_ending q_now_meaning q_now_cost q_now_alikeTo q_now_kind q_now_want q_now_saidAhead q_now_heardWord q_now_heardAnswer q_draft q_draft_ending q_draft_meaning q_draft_cost q_draft_alikeTo q_draft_kind q_draft_want q_draft_saidAhead q_draft_heardWord q_draft_heardAnswer m_now_words m_now_people m_now_said m_now_undos m_now_heard m_now_ending m_now_meaning m_now_cost m_now_alikeTo m_now_kind m_now_want m_now_saidAhead m_now_heardWord m_now_heardAnswer o1.2.2.2.2.2.2.1 o1.2.2.2.2.2.2.2.1 o1.2.2.2.2.2.2.2.2.1 o1.2.2.2.2.2.2.2.2.2.1 o1.2.2.2.2.2.2.2.2.2.2.1 o1.2.2.2.2.2.2.2.2.2.2.2.1 o1.2.2.2.2.2.2.2.2.2.2.2.2.1 o1.2.2.2.2.2.2.2.2.2.2.2.2.2.1 o1.2.2.2.2.2.2.2.2.2.2.2.2.2.2.1 o1.2.2.2.2.2.2.2.2.2.2.2.2.2.2.2.1 o1.2.2.2.2.2.2.2.2.2.2.2.2.2.2.2.2 m_draft_saidAhead m_draft_heardWord m_draft_heardAnswer    ho3) gX10_read_X9_copyFrom rfl (by decide +kernel) ⟨rfl, rfl, Nat.le_of_ble_eq_true rfl, Nat.le_of_ble_eq_true rfl⟩ gm_T_ok (fun _ => trivial) [1, 2, 3, 4, 5, 6, 7, 8, 9, 10, 11, 12, 13, 14, 15, 16, 17, 18, 19, 20] rfl rfl rfl [0] rfl rfl rfl rfl hl.1 rfl (Nat.le_of_ble_eq_true rfl) dX10_read_30 ⟨Nat.zero_le _, Nat.zero_le _⟩ (fun H locs hH => ?_)
    simp only [wX10_read, wX9_copyFrom, gm_sets, List.set_cons_succ, List.set_cons_zero] at hH
    have hH : gm_H (dC, dI) A s (wX10_read cI q q_now q_now_ending q_now_meaning q_now_cost q_now_alikeTo q_now_kind q_now_want q_now_saidAhead q_now_heardWord q_now_heardAnswer q_draft q_draft_ending q_draft_meaning q_draft_cost q_draft_alikeTo q_draft_kind q_draft_want q_draft_saidAhead q_draft_heardWord q_draft_heardAnswer q_text q_text_bytes q_images q_kinds q_duel q_cover q_clashes q_tally q_sayableByPair q_chosenPairs m_imagesKept m_bads m_nos m_fulls m_above m_below o3.1 o3.2.1 o3.2.2.1 o3.2.2.2.1 o3.2.2.2.2.1 o3.2.2.2.2.2.1 o3.2.2.2.2.2.2.1 o3.2.2.2.2.2.2.2.1 o3.2.2.2.2.2.2.2.2.1 o3.2.2.2.2.2.2.2.2.2.1 o3.2.2.2.2.2.2.2.2.2.2.1 o3.2.2.2.2.2.2.2.2.2.2.2.1 o3.2.2.2.2.2.2.2.2.2.2.2.2.1 o3.2.2.2.2.2.2.2.2.2.2.2.2.2 o1.2.2.2.2.2.2.1 o1.2.2.2.2.2.2.2.1 o1.2.2.2.2.2.2.2.2.1 o1.2.2.2.2.2.2.2.2.2.1 o1.2.2.2.2.2.2.2.2.2.2.1 o1.2.2.2.2.2.2.2.2.2.2.2.1 o1.2.2.2.2.2.2.2.2.2.2.2.2.1 o1.2.2.2.2.2.2.2.2.2.2.2.2.2.1 o1.2.2.2.2.2.2.2.2.2.2.2.2.2.2.1 o1.2.2.2.2.2.2.2.2.2.2.2.2.2.2.2.1 o1.2.2.2.2.2.2.2.2.2.2.2.2.2.2.2.2 m_draft_saidAhead m_draft_heardWord m_draft_heardAnswer m_text_length o1.2.1 o1.2.2.1 o1.2.2.2.1 o1.2.2.2.2.1 o1.2.2.2.2.2.1 m_text_bytes) H locs := hH
    refine lv_aload_n hx hb dX10_read_33 rfl (lv_at hl 1 rfl) ?_
    refine gm_get (ci := 10) C0 hH inX10_read_X10 0 5 1 rfl rfl (by decide) rfl rfl dX10_read_34 ?_
    refine gm_get (ci := 6) C0 hH inX10_read_X6 21 2 4 rfl rfl (by decide) rfl rfl dX10_read_37 ?_
    obtain rfl := Option.some.inj h
    exact gm_iret C0 hH dX10_read_40
  · replace h := gm_neg hc2 h
    refine lv_bipush (v := (-10)) hx hb dX10_read_17 (by decide) ?_
    refine lv_iload_n hx hb dX10_read_19 rfl (lv_at hl 0 rfl) ?_
    refine lv_isub hx hb dX10_read_20 ?_
    obtain rfl := Option.some.inj h
    exact gm_iret C0 hH dX10_read_21

/-! X10_isPerson -/
abbrev wX10_isPerson (q q_now q_draft q_images q_kinds q_text q_duel q_cover q_clashes q_tally q_sayableByPair q_chosenPairs q_now_ending q_now_meaning q_now_cost q_now_alikeTo q_now_kind q_now_want q_now_saidAhead q_now_heardWord q_now_heardAnswer : Nat) (m_imagesKept : Int32) (m_bads : Int32) (m_nos : Int32) (m_fulls : Int32) (m_above : Int64) (m_below : Int64) (m_now_words : Int32) (m_now_people : Int32) (m_now_said : Int32) (m_now_undos : Int32) (m_now_heard : Int32) : va_W := [(q, .inr (10, [.ref q_now, .ref q_draft, .ref q_images, .int m_imagesKept, .ref q_kinds, .ref q_text, .ref q_duel, .ref q_cover, .int m_bads, .int m_nos, .int m_fulls, .long m_above, .long m_below, .ref q_clashes, .ref q_tally, .ref q_sayableByPair, .ref q_chosenPairs])), (q_now, .inr (9, [.ref q_now_ending, .ref q_now_meaning, .ref q_now_cost, .int m_now_words, .ref q_now_alikeTo, .ref q_now_kind, .ref q_now_want, .int m_now_people, .int m_now_said, .ref q_now_saidAhead, .int m_now_undos, .ref q_now_heardWord, .ref q_now_heardAnswer, .int m_now_heard]))]
abbrev rX10_isPerson : Room := { frames := 1, cells := 0, slots := 0, locals := 21 }
def fX10_isPerson (N : Nat) (m_now_people : Int32) (x1 : Int32) : Option (Int32) := gm_bind (fX10_fits N x1 m_now_people) (fun o1 => gm_bl o1 (some (o1)))
set_option maxRecDepth 20000 in
theorem inX10_isPerson_X10 : ∀ w ∈ u_ws RX10 TX10 17, w ∈ wsX10_isPerson := fun w h => by
  obtain ⟨k, hk, rfl⟩ := List.mem_map.mp h
  have hk2 := List.mem_range.mp hk
  exact List.mem_of_getElem? (i := 7 + k) (by rcases (show k = 0 ∨ k = 1 ∨ k = 2 ∨ k = 3 ∨ k = 4 ∨ k = 5 ∨ k = 6 ∨ k = 7 ∨ k = 8 ∨ k = 9 ∨ k = 10 ∨ k = 11 ∨ k = 12 ∨ k = 13 ∨ k = 14 ∨ k = 15 ∨ k = 16 by omega) with rfl | rfl | rfl | rfl | rfl | rfl | rfl | rfl | rfl | rfl | rfl | rfl | rfl | rfl | rfl | rfl | rfl <;> rfl)
set_option maxRecDepth 20000 in
theorem inX10_isPerson_X9 : ∀ w ∈ u_ws RX9 TX9 14, w ∈ wsX10_isPerson := fun w h => by
  obtain ⟨k, hk, rfl⟩ := List.mem_map.mp h
  have hk2 := List.mem_range.mp hk
  exact List.mem_of_getElem? (i := 24 + k) (by rcases (show k = 0 ∨ k = 1 ∨ k = 2 ∨ k = 3 ∨ k = 4 ∨ k = 5 ∨ k = 6 ∨ k = 7 ∨ k = 8 ∨ k = 9 ∨ k = 10 ∨ k = 11 ∨ k = 12 ∨ k = 13 by omega) with rfl | rfl | rfl | rfl | rfl | rfl | rfl | rfl | rfl | rfl | rfl | rfl | rfl | rfl <;> rfl)
set_option maxRecDepth 100000 in
set_option maxHeartbeats 4000000 in
theorem mX10_isPerson (l : Launch) (dC : Nat → ClassId) (dI : Nat → Nat → Nat) (q q_now q_draft q_images q_kinds q_text q_duel q_cover q_clashes q_tally q_sayableByPair q_chosenPairs q_now_ending q_now_meaning q_now_cost q_now_alikeTo q_now_kind q_now_want q_now_saidAhead q_now_heardWord q_now_heardAnswer : Nat) (m_imagesKept : Int32) (m_bads : Int32) (m_nos : Int32) (m_fulls : Int32) (m_above : Int64) (m_below : Int64) (m_now_words : Int32) (m_now_people : Int32) (m_now_said : Int32) (m_now_undos : Int32) (m_now_heard : Int32) (x1 : Int32)  {N : Nat} {out : Int32} (h : fX10_isPerson N m_now_people x1 = some out) : gm_Met l yX10_isPerson wsX10_isPerson rX10_isPerson (dC, dI) [] gm_T [.ref q, .int x1] (wX10_isPerson  q q_now q_draft q_images q_kinds q_text q_duel q_cover q_clashes q_tally q_sayableByPair q_chosenPairs q_now_ending q_now_meaning q_now_cost q_now_alikeTo q_now_kind q_now_want q_now_saidAhead q_now_heardWord q_now_heardAnswer m_imagesKept m_bads m_nos m_fulls m_above m_below m_now_words m_now_people m_now_said m_now_undos m_now_heard) (some (.int out)) (wX10_isPerson  q q_now q_draft q_images q_kinds q_text q_duel q_cover q_clashes q_tally q_sayableByPair q_chosenPairs q_now_ending q_now_meaning q_now_cost q_now_alikeTo q_now_kind q_now_want q_now_saidAhead q_now_heardWord q_now_heardAnswer m_imagesKept m_bads m_nos m_fulls m_above m_below m_now_words m_now_people m_now_said m_now_undos m_now_heard) := by
  refine gm_ofW (cc := cX10_isPerson) (maxL := 2) (ret := (some .boolean)) (by decide +kernel) rfl (Nat.le_of_ble_eq_true rfl) ?_
  intro p e s m below meth c A C0 hH ls hl
  generalize ([.ref q, .int x1] : List Value).toArray = args at C0 ⊢
  have hl : lv_has ls 2 [(0, .ref q), (1, .int x1)] := hl
  generalize s.heap = H at hH ⊢
  generalize ([] : List Loc) = locs at hH ⊢
  obtain ⟨hx, hb, hml, hr, hown, hts, hA, hK, hX, hlocks⟩ := id C0
  unfold fX10_isPerson at h
  refine lv_iload_n hx hb dX10_isPerson_0 rfl (lv_at hl 1 rfl) ?_
  refine lv_aload_n hx hb dX10_isPerson_1 rfl (lv_at hl 0 rfl) ?_
  refine gm_get (ci := 10) C0 hH inX10_isPerson_X10 0 0 1 rfl rfl (by decide) rfl rfl dX10_isPerson_2 ?_
  refine gm_get (ci := 9) C0 hH inX10_isPerson_X9 1 7 2 rfl rfl (by decide) rfl rfl dX10_isPerson_5 ?_
  obtain ⟨o1, ho1, h⟩ := gm_bind_e h
  refine gm_callS (As := [.int x1, .int m_now_people]) (rest := []) (n := 2) C0 hH (mX10_fits l dC dI    x1 m_now_people   ho1) gX10_isPerson_X10_fits rfl (by decide +kernel) ⟨rfl, rfl, Nat.le_of_ble_eq_true rfl, Nat.le_of_ble_eq_true rfl⟩ gm_T_ok (fun _ => trivial) [] rfl rfl rfl [] rfl rfl hl.1 rfl (Nat.le_of_ble_eq_true rfl) dX10_isPerson_8 ⟨Nat.zero_le _, Nat.zero_le _⟩ (fun H locs hH => ?_)
  have hH : gm_H (dC, dI) A s (wX10_isPerson  q q_now q_draft q_images q_kinds q_text q_duel q_cover q_clashes q_tally q_sayableByPair q_chosenPairs q_now_ending q_now_meaning q_now_cost q_now_alikeTo q_now_kind q_now_want q_now_saidAhead q_now_heardWord q_now_heardAnswer m_imagesKept m_bads m_nos m_fulls m_above m_below m_now_words m_now_people m_now_said m_now_undos m_now_heard) H locs := hH
  obtain ⟨hn2, h⟩ := gm_bl_e h
  obtain rfl := Option.some.inj h
  exact gm_zret C0 hH hn2 dX10_isPerson_11

/-! X10_isWord -/
abbrev wX10_isWord (q q_now q_draft q_images q_kinds q_text q_duel q_cover q_clashes q_tally q_sayableByPair q_chosenPairs q_now_ending q_now_meaning q_now_cost q_now_alikeTo q_now_kind q_now_want q_now_saidAhead q_now_heardWord q_now_heardAnswer : Nat) (m_imagesKept : Int32) (m_bads : Int32) (m_nos : Int32) (m_fulls : Int32) (m_above : Int64) (m_below : Int64) (m_now_words : Int32) (m_now_people : Int32) (m_now_said : Int32) (m_now_undos : Int32) (m_now_heard : Int32) : va_W := [(q, .inr (10, [.ref q_now, .ref q_draft, .ref q_images, .int m_imagesKept, .ref q_kinds, .ref q_text, .ref q_duel, .ref q_cover, .int m_bads, .int m_nos, .int m_fulls, .long m_above, .long m_below, .ref q_clashes, .ref q_tally, .ref q_sayableByPair, .ref q_chosenPairs])), (q_now, .inr (9, [.ref q_now_ending, .ref q_now_meaning, .ref q_now_cost, .int m_now_words, .ref q_now_alikeTo, .ref q_now_kind, .ref q_now_want, .int m_now_people, .int m_now_said, .ref q_now_saidAhead, .int m_now_undos, .ref q_now_heardWord, .ref q_now_heardAnswer, .int m_now_heard]))]
abbrev rX10_isWord : Room := { frames := 1, cells := 0, slots := 0, locals := 21 }
def fX10_isWord (N : Nat) (m_now_words : Int32) (x1 : Int32) : Option (Int32) := gm_bind (fX10_fits N x1 m_now_words) (fun o1 => gm_bl o1 (some (o1)))
set_option maxRecDepth 20000 in
theorem inX10_isWord_X10 : ∀ w ∈ u_ws RX10 TX10 17, w ∈ wsX10_isWord := fun w h => by
  obtain ⟨k, hk, rfl⟩ := List.mem_map.mp h
  have hk2 := List.mem_range.mp hk
  exact List.mem_of_getElem? (i := 7 + k) (by rcases (show k = 0 ∨ k = 1 ∨ k = 2 ∨ k = 3 ∨ k = 4 ∨ k = 5 ∨ k = 6 ∨ k = 7 ∨ k = 8 ∨ k = 9 ∨ k = 10 ∨ k = 11 ∨ k = 12 ∨ k = 13 ∨ k = 14 ∨ k = 15 ∨ k = 16 by omega) with rfl | rfl | rfl | rfl | rfl | rfl | rfl | rfl | rfl | rfl | rfl | rfl | rfl | rfl | rfl | rfl | rfl <;> rfl)
set_option maxRecDepth 20000 in
theorem inX10_isWord_X9 : ∀ w ∈ u_ws RX9 TX9 14, w ∈ wsX10_isWord := fun w h => by
  obtain ⟨k, hk, rfl⟩ := List.mem_map.mp h
  have hk2 := List.mem_range.mp hk
  exact List.mem_of_getElem? (i := 24 + k) (by rcases (show k = 0 ∨ k = 1 ∨ k = 2 ∨ k = 3 ∨ k = 4 ∨ k = 5 ∨ k = 6 ∨ k = 7 ∨ k = 8 ∨ k = 9 ∨ k = 10 ∨ k = 11 ∨ k = 12 ∨ k = 13 by omega) with rfl | rfl | rfl | rfl | rfl | rfl | rfl | rfl | rfl | rfl | rfl | rfl | rfl | rfl <;> rfl)
set_option maxRecDepth 100000 in
set_option maxHeartbeats 4000000 in
theorem mX10_isWord (l : Launch) (dC : Nat → ClassId) (dI : Nat → Nat → Nat) (q q_now q_draft q_images q_kinds q_text q_duel q_cover q_clashes q_tally q_sayableByPair q_chosenPairs q_now_ending q_now_meaning q_now_cost q_now_alikeTo q_now_kind q_now_want q_now_saidAhead q_now_heardWord q_now_heardAnswer : Nat) (m_imagesKept : Int32) (m_bads : Int32) (m_nos : Int32) (m_fulls : Int32) (m_above : Int64) (m_below : Int64) (m_now_words : Int32) (m_now_people : Int32) (m_now_said : Int32) (m_now_undos : Int32) (m_now_heard : Int32) (x1 : Int32)  {N : Nat} {out : Int32} (h : fX10_isWord N m_now_words x1 = some out) : gm_Met l yX10_isWord wsX10_isWord rX10_isWord (dC, dI) [] gm_T [.ref q, .int x1] (wX10_isWord  q q_now q_draft q_images q_kinds q_text q_duel q_cover q_clashes q_tally q_sayableByPair q_chosenPairs q_now_ending q_now_meaning q_now_cost q_now_alikeTo q_now_kind q_now_want q_now_saidAhead q_now_heardWord q_now_heardAnswer m_imagesKept m_bads m_nos m_fulls m_above m_below m_now_words m_now_people m_now_said m_now_undos m_now_heard) (some (.int out)) (wX10_isWord  q q_now q_draft q_images q_kinds q_text q_duel q_cover q_clashes q_tally q_sayableByPair q_chosenPairs q_now_ending q_now_meaning q_now_cost q_now_alikeTo q_now_kind q_now_want q_now_saidAhead q_now_heardWord q_now_heardAnswer m_imagesKept m_bads m_nos m_fulls m_above m_below m_now_words m_now_people m_now_said m_now_undos m_now_heard) := by
  refine gm_ofW (cc := cX10_isWord) (maxL := 2) (ret := (some .boolean)) (by decide +kernel) rfl (Nat.le_of_ble_eq_true rfl) ?_
  intro p e s m below meth c A C0 hH ls hl
  generalize ([.ref q, .int x1] : List Value).toArray = args at C0 ⊢
  have hl : lv_has ls 2 [(0, .ref q), (1, .int x1)] := hl
  generalize s.heap = H at hH ⊢
  generalize ([] : List Loc) = locs at hH ⊢
  obtain ⟨hx, hb, hml, hr, hown, hts, hA, hK, hX, hlocks⟩ := id C0
  unfold fX10_isWord at h
  refine lv_iload_n hx hb dX10_isWord_0 rfl (lv_at hl 1 rfl) ?_
  refine lv_aload_n hx hb dX10_isWord_1 rfl (lv_at hl 0 rfl) ?_
  refine gm_get (ci := 10) C0 hH inX10_isWord_X10 0 0 1 rfl rfl (by decide) rfl rfl dX10_isWord_2 ?_
  refine gm_get (ci := 9) C0 hH inX10_isWord_X9 1 3 2 rfl rfl (by decide) rfl rfl dX10_isWord_5 ?_
  obtain ⟨o1, ho1, h⟩ := gm_bind_e h
  refine gm_callS (As := [.int x1, .int m_now_words]) (rest := []) (n := 2) C0 hH (mX10_fits l dC dI    x1 m_now_words   ho1) gX10_isWord_X10_fits rfl (by decide +kernel) ⟨rfl, rfl, Nat.le_of_ble_eq_true rfl, Nat.le_of_ble_eq_true rfl⟩ gm_T_ok (fun _ => trivial) [] rfl rfl rfl [] rfl rfl hl.1 rfl (Nat.le_of_ble_eq_true rfl) dX10_isWord_8 ⟨Nat.zero_le _, Nat.zero_le _⟩ (fun H locs hH => ?_)
  have hH : gm_H (dC, dI) A s (wX10_isWord  q q_now q_draft q_images q_kinds q_text q_duel q_cover q_clashes q_tally q_sayableByPair q_chosenPairs q_now_ending q_now_meaning q_now_cost q_now_alikeTo q_now_kind q_now_want q_now_saidAhead q_now_heardWord q_now_heardAnswer m_imagesKept m_bads m_nos m_fulls m_above m_below m_now_words m_now_people m_now_said m_now_undos m_now_heard) H locs := hH
  obtain ⟨hn2, h⟩ := gm_bl_e h
  obtain rfl := Option.some.inj h
  exact gm_zret C0 hH hn2 dX10_isWord_11

/-! X10_answerBits -/
abbrev wX10_answerBits (cI cR : ClassId) (q q_now q_now_ending q_now_meaning q_now_alikeTo q_now_kind q_now_want q_kinds q_kinds_0 q_kinds_1 q_kinds_2 q_kinds_3 q_kinds_4 q_kinds_5 q_draft q_images q_text q_duel q_cover q_clashes q_tally q_sayableByPair q_chosenPairs q_now_cost q_now_saidAhead q_now_heardWord q_now_heardAnswer : Nat) (m_imagesKept : Int32) (m_bads : Int32) (m_nos : Int32) (m_fulls : Int32) (m_above : Int64) (m_below : Int64) (m_now_words : Int32) (m_now_people : Int32) (m_now_said : Int32) (m_now_undos : Int32) (m_now_heard : Int32) (m_now_ending : Nat → Int32) (m_now_meaning : Nat → Int32) (m_now_alikeTo : Nat → Int32) (m_now_kind : Nat → Int32) (m_now_want : Nat → Int32) : va_W := [(q, .inr (10, [.ref q_now, .ref q_draft, .ref q_images, .int m_imagesKept, .ref q_kinds, .ref q_text, .ref q_duel, .ref q_cover, .int m_bads, .int m_nos, .int m_fulls, .long m_above, .long m_below, .ref q_clashes, .ref q_tally, .ref q_sayableByPair, .ref q_chosenPairs])), (q_now, .inr (9, [.ref q_now_ending, .ref q_now_meaning, .ref q_now_cost, .int m_now_words, .ref q_now_alikeTo, .ref q_now_kind, .ref q_now_want, .int m_now_people, .int m_now_said, .ref q_now_saidAhead, .int m_now_undos, .ref q_now_heardWord, .ref q_now_heardAnswer, .int m_now_heard])), (q_now_ending, .inl (cI, 10, .inl m_now_ending)), (q_now_meaning, .inl (cI, 10, .inl m_now_meaning)), (q_now_alikeTo, .inl (cI, 8, .inl m_now_alikeTo)), (q_now_kind, .inl (cI, 5, .inl m_now_kind)), (q_now_want, .inl (cI, 5, .inl m_now_want)), (q_kinds, .inl (cR, 6, .inr (.inr (.inr (.inr (gm_kd q_kinds_0 q_kinds_1 q_kinds_2 q_kinds_3 q_kinds_4 q_kinds_5)))))), (q_kinds_0, .inr (7, [])), (q_kinds_1, .inr (4, [])), (q_kinds_2, .inr (3, [])), (q_kinds_3, .inr (8, [])), (q_kinds_4, .inr (5, [])), (q_kinds_5, .inr (0, []))]
abbrev rX10_answerBits : Room := { frames := 4, cells := 0, slots := 0, locals := 93 }
def fX10_answerBits (N : Nat) (m_now_words : Int32) (m_now_said : Int32) (m_now_ending : Nat → Int32) (m_now_meaning : Nat → Int32) (m_now_alikeTo : Nat → Int32) (m_now_kind : Nat → Int32) (m_now_want : Nat → Int32) (x1 : Int32) (x2 : Int32) : Option (Int32) := gm_chk x1 5 (gm_chk ((m_now_kind (Int32.toNatClampNeg x1))) 6 (gm_chk x1 5 (gm_bind (fKD N ((m_now_kind (Int32.toNatClampNeg x1))) m_now_words m_now_ending m_now_meaning m_now_alikeTo ((m_now_want (Int32.toNatClampNeg x1))) x2) (fun o4 => some ((o4 &&& (m_now_said ^^^ (-1))))))))
set_option maxRecDepth 20000 in
theorem inX10_answerBits_X10 : ∀ w ∈ u_ws RX10 TX10 17, w ∈ wsX10_answerBits := fun w h => by
  obtain ⟨k, hk, rfl⟩ := List.mem_map.mp h
  have hk2 := List.mem_range.mp hk
  exact List.mem_of_getElem? (i := 64 + k) (by rcases (show k = 0 ∨ k = 1 ∨ k = 2 ∨ k = 3 ∨ k = 4 ∨ k = 5 ∨ k = 6 ∨ k = 7 ∨ k = 8 ∨ k = 9 ∨ k = 10 ∨ k = 11 ∨ k = 12 ∨ k = 13 ∨ k = 14 ∨ k = 15 ∨ k = 16 by omega) with rfl | rfl | rfl | rfl | rfl | rfl | rfl | rfl | rfl | rfl | rfl | rfl | rfl | rfl | rfl | rfl | rfl <;> rfl)
set_option maxRecDepth 20000 in
theorem inX10_answerBits_X9 : ∀ w ∈ u_ws RX9 TX9 14, w ∈ wsX10_answerBits := fun w h => by
  obtain ⟨k, hk, rfl⟩ := List.mem_map.mp h
  have hk2 := List.mem_range.mp hk
  exact List.mem_of_getElem? (i := 81 + k) (by rcases (show k = 0 ∨ k = 1 ∨ k = 2 ∨ k = 3 ∨ k = 4 ∨ k = 5 ∨ k = 6 ∨ k = 7 ∨ k = 8 ∨ k = 9 ∨ k = 10 ∨ k = 11 ∨ k = 12 ∨ k = 13 by omega) with rfl | rfl | rfl | rfl | rfl | rfl | rfl | rfl | rfl | rfl | rfl | rfl | rfl | rfl <;> rfl)
set_option maxRecDepth 100000 in
set_option maxHeartbeats 4000000 in
theorem mX10_answerBits (l : Launch) (dC : Nat → ClassId) (dI : Nat → Nat → Nat) (cI cR : ClassId) (q q_now q_now_ending q_now_meaning q_now_alikeTo q_now_kind q_now_want q_kinds q_kinds_0 q_kinds_1 q_kinds_2 q_kinds_3 q_kinds_4 q_kinds_5 q_draft q_images q_text q_duel q_cover q_clashes q_tally q_sayableByPair q_chosenPairs q_now_cost q_now_saidAhead q_now_heardWord q_now_heardAnswer : Nat) (m_imagesKept : Int32) (m_bads : Int32) (m_nos : Int32) (m_fulls : Int32) (m_above : Int64) (m_below : Int64) (m_now_words : Int32) (m_now_people : Int32) (m_now_said : Int32) (m_now_undos : Int32) (m_now_heard : Int32) (m_now_ending : Nat → Int32) (m_now_meaning : Nat → Int32) (m_now_alikeTo : Nat → Int32) (m_now_kind : Nat → Int32) (m_now_want : Nat → Int32) (x1 : Int32) (x2 : Int32)  {N : Nat} {out : Int32} (h : fX10_answerBits N m_now_words m_now_said m_now_ending m_now_meaning m_now_alikeTo m_now_kind m_now_want x1 x2 = some out) : gm_Met l yX10_answerBits wsX10_answerBits rX10_answerBits (dC, dI) [(cI, .int), (cR, .object "OnlyRhymes$Rhymer")] gm_T [.ref q, .int x1, .int x2] (wX10_answerBits cI cR q q_now q_now_ending q_now_meaning q_now_alikeTo q_now_kind q_now_want q_kinds q_kinds_0 q_kinds_1 q_kinds_2 q_kinds_3 q_kinds_4 q_kinds_5 q_draft q_images q_text q_duel q_cover q_clashes q_tally q_sayableByPair q_chosenPairs q_now_cost q_now_saidAhead q_now_heardWord q_now_heardAnswer m_imagesKept m_bads m_nos m_fulls m_above m_below m_now_words m_now_people m_now_said m_now_undos m_now_heard m_now_ending m_now_meaning m_now_alikeTo m_now_kind m_now_want) (some (.int out)) (wX10_answerBits cI cR q q_now q_now_ending q_now_meaning q_now_alikeTo q_now_kind q_now_want q_kinds q_kinds_0 q_kinds_1 q_kinds_2 q_kinds_3 q_kinds_4 q_kinds_5 q_draft q_images q_text q_duel q_cover q_clashes q_tally q_sayableByPair q_chosenPairs q_now_cost q_now_saidAhead q_now_heardWord q_now_heardAnswer m_imagesKept m_bads m_nos m_fulls m_above m_below m_now_words m_now_people m_now_said m_now_undos m_now_heard m_now_ending m_now_meaning m_now_alikeTo m_now_kind m_now_want) := by
  refine gm_ofW (cc := cX10_answerBits) (maxL := 3) (ret := (some .int)) (by decide +kernel) rfl (Nat.le_of_ble_eq_true rfl) ?_
  intro p e s m below meth c A C0 hH ls hl
  generalize ([.ref q, .int x1, .int x2] : List Value).toArray = args at C0 ⊢
  have hl : lv_has ls 3 [(0, .ref q), (1, .int x1), (2, .int x2)] := hl
  generalize s.heap = H at hH ⊢
  generalize ([] : List Loc) = locs at hH ⊢
  obtain ⟨hx, hb, hml, hr, hown, hts, hA, hK, hX, hlocks⟩ := id C0
  unfold fX10_answerBits at h
  refine lv_aload_n hx hb dX10_answerBits_0 rfl (lv_at hl 0 rfl) ?_
  refine gm_get (ci := 10) C0 hH inX10_answerBits_X10 0 4 1 rfl rfl (by decide) rfl rfl dX10_answerBits_1 ?_
  refine lv_aload_n hx hb dX10_answerBits_4 rfl (lv_at hl 0 rfl) ?_
  refine gm_get (ci := 10) C0 hH inX10_answerBits_X10 0 0 2 rfl rfl (by decide) rfl rfl dX10_answerBits_5 ?_
  refine gm_get (ci := 9) C0 hH inX10_answerBits_X9 1 5 3 rfl rfl (by decide) rfl rfl dX10_answerBits_8 ?_
  refine lv_iload_n hx hb dX10_answerBits_11 rfl (lv_at hl 1 rfl) ?_
  obtain ⟨hi1, h⟩ := gm_chk_e h
  refine gm_iald C0 hH hi1 5 0 rfl rfl dX10_answerBits_12 ?_
  obtain ⟨hi2, h⟩ := gm_chk_e h
  refine gm_aldq C0 hH hi2 7 1 rfl rfl dX10_answerBits_13 ?_
  refine W.eq (g2 := F0 m 14 ls [.ref (gm_kf q_kinds_0 q_kinds_1 q_kinds_2 q_kinds_3 q_kinds_4 q_kinds_5 (Int32.toNatClampNeg ((m_now_kind (Int32.toNatClampNeg x1)))))]) (congrArg (fun v => F0 m 14 ls (v :: [])) (gm_kf_eq hi2)) ?_
  refine lv_aload_n hx hb dX10_answerBits_14 rfl (lv_at hl 0 rfl) ?_
  refine gm_get (ci := 10) C0 hH inX10_answerBits_X10 0 0 2 rfl rfl (by decide) rfl rfl dX10_answerBits_15 ?_
  refine lv_aload_n hx hb dX10_answerBits_18 rfl (lv_at hl 0 rfl) ?_
  refine gm_get (ci := 10) C0 hH inX10_answerBits_X10 0 0 2 rfl rfl (by decide) rfl rfl dX10_answerBits_19 ?_
  refine gm_get (ci := 9) C0 hH inX10_answerBits_X9 1 6 4 rfl rfl (by decide) rfl rfl dX10_answerBits_22 ?_
  refine lv_iload_n hx hb dX10_answerBits_25 rfl (lv_at hl 1 rfl) ?_
  obtain ⟨hi3, h⟩ := gm_chk_e h
  refine gm_iald C0 hH hi3 6 0 rfl rfl dX10_answerBits_26 ?_
  refine lv_iload_n hx hb dX10_answerBits_27 rfl (lv_at hl 2 rfl) ?_
  obtain ⟨o4, ho4, h⟩ := gm_bind_e h
  have kk : ∀ (H : Heap) (locs : List Loc), gm_H (dC, dI) A s (wX10_answerBits cI cR q q_now q_now_ending q_now_meaning q_now_alikeTo q_now_kind q_now_want q_kinds q_kinds_0 q_kinds_1 q_kinds_2 q_kinds_3 q_kinds_4 q_kinds_5 q_draft q_images q_text q_duel q_cover q_clashes q_tally q_sayableByPair q_chosenPairs q_now_cost q_now_saidAhead q_now_heardWord q_now_heardAnswer m_imagesKept m_bads m_nos m_fulls m_above m_below m_now_words m_now_people m_now_said m_now_undos m_now_heard m_now_ending m_now_meaning m_now_alikeTo m_now_kind m_now_want) H locs → W p l e rX10_answerBits s m args below meth c H locs 0 0 (MQ below (gm_Q (dC, dI) [(cI, .int), (cR, .object "OnlyRhymes$Rhymer")] A (some (.int out)) (wX10_answerBits cI cR q q_now q_now_ending q_now_meaning q_now_alikeTo q_now_kind q_now_want q_kinds q_kinds_0 q_kinds_1 q_kinds_2 q_kinds_3 q_kinds_4 q_kinds_5 q_draft q_images q_text q_duel q_cover q_clashes q_tally q_sayableByPair q_chosenPairs q_now_cost q_now_saidAhead q_now_heardWord q_now_heardAnswer m_imagesKept m_bads m_nos m_fulls m_above m_below m_now_words m_now_people m_now_said m_now_undos m_now_heard m_now_ending m_now_meaning m_now_alikeTo m_now_kind m_now_want)) args s 0 0 A) (F0 m 31 ls [.int o4]) := by
    intro H locs hH
    refine lv_aload_n hx hb dX10_answerBits_31 rfl (lv_at hl 0 rfl) ?_
    refine gm_get (ci := 10) C0 hH inX10_answerBits_X10 0 0 2 rfl rfl (by decide) rfl rfl dX10_answerBits_32 ?_
    refine gm_get (ci := 9) C0 hH inX10_answerBits_X9 1 8 5 rfl rfl (by decide) rfl rfl dX10_answerBits_35 ?_
    refine lv_iconst (v := (-1)) hx hb dX10_answerBits_38 (by decide) ?_
    refine lv_ixor hx hb dX10_answerBits_39 ?_
    refine lv_iand hx hb dX10_answerBits_40 ?_
    obtain rfl := Option.some.inj h
    exact gm_iret C0 hH dX10_answerBits_41
  unfold fKD at ho4
  rcases gm_six hi2 with hk | hk | hk | hk | hk | hk
  · rw [if_pos hk] at ho4
    refine W.eq (g2 := F0 m 28 ls [.int x2, .int (m_now_want (Int32.toNatClampNeg x1)), .ref q_now, .ref q_kinds_0]) (by rw [hk]; rfl) ?_
    exact gm_callV (As := [.ref q_now, .int (m_now_want (Int32.toNatClampNeg x1)), .int x2]) (rest := []) (n := 3) (ci := 7) (q0 := 8) C0 hH (mX7_chimes l dC dI cI q_now q_now_ending q_now_meaning q_now_cost q_now_alikeTo q_now_kind q_now_want q_now_saidAhead q_now_heardWord q_now_heardAnswer q_kinds_0 m_now_words m_now_people m_now_said m_now_undos m_now_heard m_now_ending ((m_now_want (Int32.toNatClampNeg x1))) x2  ho4) gX10_answerBits_X7_chimes rfl (by decide +kernel) ⟨rfl, rfl, Nat.le_of_ble_eq_true rfl, Nat.le_of_ble_eq_true rfl⟩ gm_T_ok (fun _ => trivial) [1, 2] rfl rfl rfl [0] rfl rfl rfl rfl hl.1 rfl (Nat.le_of_ble_eq_true rfl) dX10_answerBits_28 ⟨Nat.zero_le _, Nat.zero_le _⟩ kk
  · rw [if_neg (show ¬ (m_now_kind (Int32.toNatClampNeg x1)) = 0 by rw [hk]; decide), if_pos hk] at ho4
    refine W.eq (g2 := F0 m 28 ls [.int x2, .int (m_now_want (Int32.toNatClampNeg x1)), .ref q_now, .ref q_kinds_1]) (by rw [hk]; rfl) ?_
    exact gm_callO (As := [.ref q_now, .int (m_now_want (Int32.toNatClampNeg x1)), .int x2]) (rest := []) (n := 3) (ci := 4) (q0 := 9) C0 hH (mX4_chimes l dC dI cI q_kinds_1 q_now q_now_ending q_now_alikeTo q_now_meaning q_now_cost q_now_kind q_now_want q_now_saidAhead q_now_heardWord q_now_heardAnswer m_now_words m_now_people m_now_said m_now_undos m_now_heard m_now_ending m_now_alikeTo ((m_now_want (Int32.toNatClampNeg x1))) x2 4 rfl ho4) gX10_answerBits_X4_chimes_u179X4 rfl (List.mem_of_getElem? (i := 25) rfl) (by decide +kernel) ⟨rfl, rfl, Nat.le_of_ble_eq_true rfl, Nat.le_of_ble_eq_true rfl⟩ gm_T_ok (fun _ => trivial) [9, 1, 2, 4] rfl rfl rfl [0] rfl rfl rfl rfl hl.1 rfl (Nat.le_of_ble_eq_true rfl) dX10_answerBits_28 ⟨Nat.zero_le _, Nat.zero_le _⟩ kk
  · rw [if_neg (show ¬ (m_now_kind (Int32.toNatClampNeg x1)) = 0 by rw [hk]; decide), if_neg (show ¬ (m_now_kind (Int32.toNatClampNeg x1)) = 1 by rw [hk]; decide), if_pos hk] at ho4
    refine W.eq (g2 := F0 m 28 ls [.int x2, .int (m_now_want (Int32.toNatClampNeg x1)), .ref q_now, .ref q_kinds_2]) (by rw [hk]; rfl) ?_
    exact gm_callO (As := [.ref q_now, .int (m_now_want (Int32.toNatClampNeg x1)), .int x2]) (rest := []) (n := 3) (ci := 3) (q0 := 10) C0 hH (mX3_chimes l dC dI cI q_kinds_2 q_now q_now_ending q_now_meaning q_now_cost q_now_alikeTo q_now_kind q_now_want q_now_saidAhead q_now_heardWord q_now_heardAnswer m_now_words m_now_people m_now_said m_now_undos m_now_heard m_now_ending ((m_now_want (Int32.toNatClampNeg x1))) x2 3 rfl ho4) gX10_answerBits_X3_chimes_u179X3 rfl (List.mem_of_getElem? (i := 25) rfl) (by decide +kernel) ⟨rfl, rfl, Nat.le_of_ble_eq_true rfl, Nat.le_of_ble_eq_true rfl⟩ gm_T_ok (fun _ => trivial) [10, 1, 2] rfl rfl rfl [0] rfl rfl rfl rfl hl.1 rfl (Nat.le_of_ble_eq_true rfl) dX10_answerBits_28 ⟨Nat.zero_le _, Nat.zero_le _⟩ kk
  · rw [if_neg (show ¬ (m_now_kind (Int32.toNatClampNeg x1)) = 0 by rw [hk]; decide), if_neg (show ¬ (m_now_kind (Int32.toNatClampNeg x1)) = 1 by rw [hk]; decide), if_neg (show ¬ (m_now_kind (Int32.toNatClampNeg x1)) = 2 by rw [hk]; decide), if_pos hk] at ho4
    refine W.eq (g2 := F0 m 28 ls [.int x2, .int (m_now_want (Int32.toNatClampNeg x1)), .ref q_now, .ref q_kinds_3]) (by rw [hk]; rfl) ?_
    exact gm_callO (As := [.ref q_now, .int (m_now_want (Int32.toNatClampNeg x1)), .int x2]) (rest := []) (n := 3) (ci := 8) (q0 := 11) C0 hH (mX8_chimes l dC dI cI q_kinds_3 q_now q_now_ending q_now_meaning q_now_cost q_now_alikeTo q_now_kind q_now_want q_now_saidAhead q_now_heardWord q_now_heardAnswer m_now_words m_now_people m_now_said m_now_undos m_now_heard m_now_ending ((m_now_want (Int32.toNatClampNeg x1))) x2 8 rfl ho4) gX10_answerBits_X8_chimes_u179X8 rfl (List.mem_of_getElem? (i := 25) rfl) (by decide +kernel) ⟨rfl, rfl, Nat.le_of_ble_eq_true rfl, Nat.le_of_ble_eq_true rfl⟩ gm_T_ok (fun _ => trivial) [11, 1, 2] rfl rfl rfl [0] rfl rfl rfl rfl hl.1 rfl (Nat.le_of_ble_eq_true rfl) dX10_answerBits_28 ⟨Nat.zero_le _, Nat.zero_le _⟩ kk
  · rw [if_neg (show ¬ (m_now_kind (Int32.toNatClampNeg x1)) = 0 by rw [hk]; decide), if_neg (show ¬ (m_now_kind (Int32.toNatClampNeg x1)) = 1 by rw [hk]; decide), if_neg (show ¬ (m_now_kind (Int32.toNatClampNeg x1)) = 2 by rw [hk]; decide), if_neg (show ¬ (m_now_kind (Int32.toNatClampNeg x1)) = 3 by rw [hk]; decide), if_pos hk] at ho4
    refine W.eq (g2 := F0 m 28 ls [.int x2, .int (m_now_want (Int32.toNatClampNeg x1)), .ref q_now, .ref q_kinds_4]) (by rw [hk]; rfl) ?_
    exact gm_callO (As := [.ref q_now, .int (m_now_want (Int32.toNatClampNeg x1)), .int x2]) (rest := []) (n := 3) (ci := 5) (q0 := 12) C0 hH (mX5_chimes l dC dI cI q_kinds_4 q_now q_now_ending q_now_meaning q_now_alikeTo q_now_cost q_now_kind q_now_want q_now_saidAhead q_now_heardWord q_now_heardAnswer m_now_words m_now_people m_now_said m_now_undos m_now_heard m_now_ending m_now_meaning m_now_alikeTo ((m_now_want (Int32.toNatClampNeg x1))) x2 5 rfl ho4) gX10_answerBits_X5_chimes_u179X5 rfl (List.mem_of_getElem? (i := 25) rfl) (by decide +kernel) ⟨rfl, rfl, Nat.le_of_ble_eq_true rfl, Nat.le_of_ble_eq_true rfl⟩ gm_T_ok (fun _ => trivial) [12, 1, 2, 3, 4] rfl rfl rfl [0] rfl rfl rfl rfl hl.1 rfl (Nat.le_of_ble_eq_true rfl) dX10_answerBits_28 ⟨Nat.zero_le _, Nat.zero_le _⟩ kk
  · rw [if_neg (show ¬ (m_now_kind (Int32.toNatClampNeg x1)) = 0 by rw [hk]; decide), if_neg (show ¬ (m_now_kind (Int32.toNatClampNeg x1)) = 1 by rw [hk]; decide), if_neg (show ¬ (m_now_kind (Int32.toNatClampNeg x1)) = 2 by rw [hk]; decide), if_neg (show ¬ (m_now_kind (Int32.toNatClampNeg x1)) = 3 by rw [hk]; decide), if_neg (show ¬ (m_now_kind (Int32.toNatClampNeg x1)) = 4 by rw [hk]; decide)] at ho4
    refine W.eq (g2 := F0 m 28 ls [.int x2, .int (m_now_want (Int32.toNatClampNeg x1)), .ref q_now, .ref q_kinds_5]) (by rw [hk]; rfl) ?_
    exact gm_callO (As := [.ref q_now, .int (m_now_want (Int32.toNatClampNeg x1)), .int x2]) (rest := []) (n := 3) (ci := 0) (q0 := 13) C0 hH (mX0_chimes l dC dI cI q_kinds_5 q_now q_now_ending q_now_meaning q_now_alikeTo q_now_cost q_now_kind q_now_want q_now_saidAhead q_now_heardWord q_now_heardAnswer m_now_words m_now_people m_now_said m_now_undos m_now_heard m_now_ending m_now_meaning m_now_alikeTo ((m_now_want (Int32.toNatClampNeg x1))) x2 0 rfl ho4) gX10_answerBits_X0_chimes_u179X0 rfl (List.mem_of_getElem? (i := 25) rfl) (by decide +kernel) ⟨rfl, rfl, Nat.le_of_ble_eq_true rfl, Nat.le_of_ble_eq_true rfl⟩ gm_T_ok (fun _ => trivial) [13, 1, 2, 3, 4] rfl rfl rfl [0] rfl rfl rfl rfl hl.1 rfl (Nat.le_of_ble_eq_true rfl) dX10_answerBits_28 ⟨Nat.zero_le _, Nat.zero_le _⟩ kk

/-! X10_ask -/
abbrev wX10_ask (cI cR : ClassId) (q q_now q_now_ending q_now_meaning q_now_alikeTo q_now_kind q_now_want q_now_saidAhead q_kinds q_kinds_0 q_kinds_1 q_kinds_2 q_kinds_3 q_kinds_4 q_kinds_5 q_draft q_images q_text q_duel q_cover q_clashes q_tally q_sayableByPair q_chosenPairs q_now_cost q_now_heardWord q_now_heardAnswer : Nat) (m_imagesKept : Int32) (m_bads : Int32) (m_nos : Int32) (m_fulls : Int32) (m_above : Int64) (m_below : Int64) (m_now_words : Int32) (m_now_people : Int32) (m_now_said : Int32) (m_now_undos : Int32) (m_now_heard : Int32) (m_now_ending : Nat → Int32) (m_now_meaning : Nat → Int32) (m_now_alikeTo : Nat → Int32) (m_now_kind : Nat → Int32) (m_now_want : Nat → Int32) (m_now_saidAhead : Nat → Int32) : va_W := [(q, .inr (10, [.ref q_now, .ref q_draft, .ref q_images, .int m_imagesKept, .ref q_kinds, .ref q_text, .ref q_duel, .ref q_cover, .int m_bads, .int m_nos, .int m_fulls, .long m_above, .long m_below, .ref q_clashes, .ref q_tally, .ref q_sayableByPair, .ref q_chosenPairs])), (q_now, .inr (9, [.ref q_now_ending, .ref q_now_meaning, .ref q_now_cost, .int m_now_words, .ref q_now_alikeTo, .ref q_now_kind, .ref q_now_want, .int m_now_people, .int m_now_said, .ref q_now_saidAhead, .int m_now_undos, .ref q_now_heardWord, .ref q_now_heardAnswer, .int m_now_heard])), (q_now_ending, .inl (cI, 10, .inl m_now_ending)), (q_now_meaning, .inl (cI, 10, .inl m_now_meaning)), (q_now_alikeTo, .inl (cI, 8, .inl m_now_alikeTo)), (q_now_kind, .inl (cI, 5, .inl m_now_kind)), (q_now_want, .inl (cI, 5, .inl m_now_want)), (q_now_saidAhead, .inl (cI, 8, .inl m_now_saidAhead)), (q_kinds, .inl (cR, 6, .inr (.inr (.inr (.inr (gm_kd q_kinds_0 q_kinds_1 q_kinds_2 q_kinds_3 q_kinds_4 q_kinds_5)))))), (q_kinds_0, .inr (7, [])), (q_kinds_1, .inr (4, [])), (q_kinds_2, .inr (3, [])), (q_kinds_3, .inr (8, [])), (q_kinds_4, .inr (5, [])), (q_kinds_5, .inr (0, []))]
abbrev rX10_ask : Room := { frames := 5, cells := 0, slots := 0, locals := 115 }
def fX10_ask_b24 (N : Nat)  (m_bads : Int32) (m_nos : Int32) (m_fulls : Int32) (m_now_said : Int32) (m_now_undos : Int32) (m_now_saidAhead : Nat → Int32) : Option (Int32 × Int32 × Int32 × Int32 × Int32 × Int32 × (Nat → Int32)) := gm_bind (fX10_refuse N m_bads m_nos m_fulls ((-2))) (fun o3 => some (o3.1, o3.2.1, o3.2.2.1, o3.2.2.2, m_now_said, m_now_undos, m_now_saidAhead))
def fX10_ask (N : Nat) (m_bads : Int32) (m_nos : Int32) (m_fulls : Int32) (m_now_words : Int32) (m_now_people : Int32) (m_now_said : Int32) (m_now_undos : Int32) (m_now_ending : Nat → Int32) (m_now_meaning : Nat → Int32) (m_now_alikeTo : Nat → Int32) (m_now_kind : Nat → Int32) (m_now_want : Nat → Int32) (m_now_saidAhead : Nat → Int32) (x1 : Int32) (x2 : Int32) (x3 : Int32) : Option (Int32 × Int32 × Int32 × Int32 × Int32 × Int32 × (Nat → Int32)) := gm_bind (fX10_isPerson N m_now_people x1) (fun o1 => (if o1 = 0 then (fX10_ask_b24 N  m_bads m_nos m_fulls m_now_said m_now_undos m_now_saidAhead) else gm_bind (fX10_isWord N m_now_words x2) (fun o4 => (if o4 = 0 then (fX10_ask_b24 N  m_bads m_nos m_fulls m_now_said m_now_undos m_now_saidAhead) else gm_bind (fX10_isWord N m_now_words x3) (fun o6 => (if o6 = 0 then (fX10_ask_b24 N  m_bads m_nos m_fulls m_now_said m_now_undos m_now_saidAhead) else gm_bind (fX10_answerBits N m_now_words m_now_said m_now_ending m_now_meaning m_now_alikeTo m_now_kind m_now_want x1 x2) (fun o8 => (if ((o8 >>> (x3 &&& 31)) &&& 1) = 0 then gm_bind (fX10_refuse N m_bads m_nos m_fulls ((-3))) (fun o12 => some (o12.1, o12.2.1, o12.2.2.1, o12.2.2.2, m_now_said, m_now_undos, m_now_saidAhead)) else gm_bind (fX9_say N m_now_said m_now_undos m_now_saidAhead x3) (fun o10 => gm_chk x3 10 (some ((m_now_meaning (Int32.toNatClampNeg x3)), m_bads, m_nos, m_fulls, o10.1, o10.2.1, o10.2.2)))))))))))
set_option maxRecDepth 20000 in
theorem inX10_ask_X10 : ∀ w ∈ u_ws RX10 TX10 17, w ∈ wsX10_ask := fun w h => by
  obtain ⟨k, hk, rfl⟩ := List.mem_map.mp h
  have hk2 := List.mem_range.mp hk
  exact List.mem_of_getElem? (i := 101 + k) (by rcases (show k = 0 ∨ k = 1 ∨ k = 2 ∨ k = 3 ∨ k = 4 ∨ k = 5 ∨ k = 6 ∨ k = 7 ∨ k = 8 ∨ k = 9 ∨ k = 10 ∨ k = 11 ∨ k = 12 ∨ k = 13 ∨ k = 14 ∨ k = 15 ∨ k = 16 by omega) with rfl | rfl | rfl | rfl | rfl | rfl | rfl | rfl | rfl | rfl | rfl | rfl | rfl | rfl | rfl | rfl | rfl <;> rfl)
set_option maxRecDepth 20000 in
theorem inX10_ask_X9 : ∀ w ∈ u_ws RX9 TX9 14, w ∈ wsX10_ask := fun w h => by
  obtain ⟨k, hk, rfl⟩ := List.mem_map.mp h
  have hk2 := List.mem_range.mp hk
  exact List.mem_of_getElem? (i := 118 + k) (by rcases (show k = 0 ∨ k = 1 ∨ k = 2 ∨ k = 3 ∨ k = 4 ∨ k = 5 ∨ k = 6 ∨ k = 7 ∨ k = 8 ∨ k = 9 ∨ k = 10 ∨ k = 11 ∨ k = 12 ∨ k = 13 by omega) with rfl | rfl | rfl | rfl | rfl | rfl | rfl | rfl | rfl | rfl | rfl | rfl | rfl | rfl <;> rfl)
set_option maxRecDepth 100000 in
set_option maxHeartbeats 4000000 in
theorem tX10_ask_b24 {p : Program} {l : Launch} {e : Env} {s : State} {m : MethodId} {args : Array Value} {below : List Frame} {meth : Method} {c : Code} {A : Nat → Prop} {dC : Nat → ClassId} {dI : Nat → Nat → Nat} {cI cR : ClassId} {q q_now q_now_ending q_now_meaning q_now_alikeTo q_now_kind q_now_want q_now_saidAhead q_kinds q_kinds_0 q_kinds_1 q_kinds_2 q_kinds_3 q_kinds_4 q_kinds_5 q_draft q_images q_text q_duel q_cover q_clashes q_tally q_sayableByPair q_chosenPairs q_now_cost q_now_heardWord q_now_heardAnswer : Nat} {m_imagesKept : Int32} {m_bads : Int32} {m_nos : Int32} {m_fulls : Int32} {m_above : Int64} {m_below : Int64} {m_now_words : Int32} {m_now_people : Int32} {m_now_said : Int32} {m_now_undos : Int32} {m_now_heard : Int32} {m_now_ending : Nat → Int32} {m_now_meaning : Nat → Int32} {m_now_alikeTo : Nat → Int32} {m_now_kind : Nat → Int32} {m_now_want : Nat → Int32} {m_now_saidAhead : Nat → Int32} (C0 : gm_C p s m args meth c (dC, dI) [(cI, .int), (cR, .object "OnlyRhymes$Rhymer")] A gm_T RX10 cX10_ask 4 (some .int) wsX10_ask) {N : Nat} {out : Int32 × Int32 × Int32 × Int32 × Int32 × Int32 × (Nat → Int32)}    {H : Heap} {locs : List Loc} {ls : Array Slot} (h : fX10_ask_b24 N  m_bads m_nos m_fulls m_now_said m_now_undos m_now_saidAhead = some out) (hH : gm_H (dC, dI) A s (wX10_ask cI cR q q_now q_now_ending q_now_meaning q_now_alikeTo q_now_kind q_now_want q_now_saidAhead q_kinds q_kinds_0 q_kinds_1 q_kinds_2 q_kinds_3 q_kinds_4 q_kinds_5 q_draft q_images q_text q_duel q_cover q_clashes q_tally q_sayableByPair q_chosenPairs q_now_cost q_now_heardWord q_now_heardAnswer m_imagesKept m_bads m_nos m_fulls m_above m_below m_now_words m_now_people m_now_said m_now_undos m_now_heard m_now_ending m_now_meaning m_now_alikeTo m_now_kind m_now_want m_now_saidAhead) H locs) (hl : lv_has ls 4 [(0, .ref q)]) : W p l e rX10_ask s m args below meth c H locs 0 0 (MQ below (gm_Q (dC, dI) [(cI, .int), (cR, .object "OnlyRhymes$Rhymer")] A (some (.int out.1)) (wX10_ask cI cR q q_now q_now_ending q_now_meaning q_now_alikeTo q_now_kind q_now_want q_now_saidAhead q_kinds q_kinds_0 q_kinds_1 q_kinds_2 q_kinds_3 q_kinds_4 q_kinds_5 q_draft q_images q_text q_duel q_cover q_clashes q_tally q_sayableByPair q_chosenPairs q_now_cost q_now_heardWord q_now_heardAnswer m_imagesKept out.2.1 out.2.2.1 out.2.2.2.1 m_above m_below m_now_words m_now_people out.2.2.2.2.1 out.2.2.2.2.2.1 m_now_heard m_now_ending m_now_meaning m_now_alikeTo m_now_kind m_now_want out.2.2.2.2.2.2)) args s 0 0 A) (F0 m 24 ls []) := by
  obtain ⟨hx, hb, hml, hr, hown, hts, hA, hK, hX, hlocks⟩ := id C0
  unfold fX10_ask_b24 at h
  refine lv_aload_n hx hb dX10_ask_24 rfl (lv_at hl 0 rfl) ?_
  refine lv_bipush (v := (-2)) hx hb dX10_ask_25 (by decide) ?_
  obtain ⟨o3, ho3, h⟩ := gm_bind_e h
  refine gm_callV (As := [.int (-2)]) (rest := []) (n := 1) (ci := 10) (q0 := 0) C0 hH (mX10_refuse l dC dI  q q_now q_draft q_images q_kinds q_text q_duel q_cover q_clashes q_tally q_sayableByPair q_chosenPairs m_imagesKept m_bads m_nos m_fulls m_above m_below ((-2))   ho3) gX10_ask_X10_refuse rfl (by decide +kernel) ⟨rfl, rfl, Nat.le_of_ble_eq_true rfl, Nat.le_of_ble_eq_true rfl⟩ gm_T_ok (fun _ => trivial) [0] rfl rfl rfl [] rfl rfl rfl rfl hl.1 rfl (Nat.le_of_ble_eq_true rfl) dX10_ask_27 ⟨Nat.zero_le _, Nat.zero_le _⟩ (fun H locs hH => ?_)
  have hH : gm_H (dC, dI) A s (wX10_ask cI cR q q_now q_now_ending q_now_meaning q_now_alikeTo q_now_kind q_now_want q_now_saidAhead q_kinds q_kinds_0 q_kinds_1 q_kinds_2 q_kinds_3 q_kinds_4 q_kinds_5 q_draft q_images q_text q_duel q_cover q_clashes q_tally q_sayableByPair q_chosenPairs q_now_cost q_now_heardWord q_now_heardAnswer m_imagesKept o3.2.1 o3.2.2.1 o3.2.2.2 m_above m_below m_now_words m_now_people m_now_said m_now_undos m_now_heard m_now_ending m_now_meaning m_now_alikeTo m_now_kind m_now_want m_now_saidAhead) H locs := hH
  obtain rfl := Option.some.inj h
  exact gm_iret C0 hH dX10_ask_30
set_option maxRecDepth 100000 in
set_option maxHeartbeats 4000000 in
theorem mX10_ask (l : Launch) (dC : Nat → ClassId) (dI : Nat → Nat → Nat) (cI cR : ClassId) (q q_now q_now_ending q_now_meaning q_now_alikeTo q_now_kind q_now_want q_now_saidAhead q_kinds q_kinds_0 q_kinds_1 q_kinds_2 q_kinds_3 q_kinds_4 q_kinds_5 q_draft q_images q_text q_duel q_cover q_clashes q_tally q_sayableByPair q_chosenPairs q_now_cost q_now_heardWord q_now_heardAnswer : Nat) (m_imagesKept : Int32) (m_bads : Int32) (m_nos : Int32) (m_fulls : Int32) (m_above : Int64) (m_below : Int64) (m_now_words : Int32) (m_now_people : Int32) (m_now_said : Int32) (m_now_undos : Int32) (m_now_heard : Int32) (m_now_ending : Nat → Int32) (m_now_meaning : Nat → Int32) (m_now_alikeTo : Nat → Int32) (m_now_kind : Nat → Int32) (m_now_want : Nat → Int32) (m_now_saidAhead : Nat → Int32) (x1 : Int32) (x2 : Int32) (x3 : Int32)  {N : Nat} {out : Int32 × Int32 × Int32 × Int32 × Int32 × Int32 × (Nat → Int32)} (h : fX10_ask N m_bads m_nos m_fulls m_now_words m_now_people m_now_said m_now_undos m_now_ending m_now_meaning m_now_alikeTo m_now_kind m_now_want m_now_saidAhead x1 x2 x3 = some out) : gm_Met l yX10_ask wsX10_ask rX10_ask (dC, dI) [(cI, .int), (cR, .object "OnlyRhymes$Rhymer")] gm_T [.ref q, .int x1, .int x2, .int x3] (wX10_ask cI cR q q_now q_now_ending q_now_meaning q_now_alikeTo q_now_kind q_now_want q_now_saidAhead q_kinds q_kinds_0 q_kinds_1 q_kinds_2 q_kinds_3 q_kinds_4 q_kinds_5 q_draft q_images q_text q_duel q_cover q_clashes q_tally q_sayableByPair q_chosenPairs q_now_cost q_now_heardWord q_now_heardAnswer m_imagesKept m_bads m_nos m_fulls m_above m_below m_now_words m_now_people m_now_said m_now_undos m_now_heard m_now_ending m_now_meaning m_now_alikeTo m_now_kind m_now_want m_now_saidAhead) (some (.int out.1)) (wX10_ask cI cR q q_now q_now_ending q_now_meaning q_now_alikeTo q_now_kind q_now_want q_now_saidAhead q_kinds q_kinds_0 q_kinds_1 q_kinds_2 q_kinds_3 q_kinds_4 q_kinds_5 q_draft q_images q_text q_duel q_cover q_clashes q_tally q_sayableByPair q_chosenPairs q_now_cost q_now_heardWord q_now_heardAnswer m_imagesKept out.2.1 out.2.2.1 out.2.2.2.1 m_above m_below m_now_words m_now_people out.2.2.2.2.1 out.2.2.2.2.2.1 m_now_heard m_now_ending m_now_meaning m_now_alikeTo m_now_kind m_now_want out.2.2.2.2.2.2) := by
  refine gm_ofW (cc := cX10_ask) (maxL := 4) (ret := (some .int)) (by decide +kernel) rfl (Nat.le_of_ble_eq_true rfl) ?_
  intro p e s m below meth c A C0 hH ls hl
  generalize ([.ref q, .int x1, .int x2, .int x3] : List Value).toArray = args at C0 ⊢
  have hl : lv_has ls 4 [(0, .ref q), (1, .int x1), (2, .int x2), (3, .int x3)] := hl
  generalize s.heap = H at hH ⊢
  generalize ([] : List Loc) = locs at hH ⊢
  obtain ⟨hx, hb, hml, hr, hown, hts, hA, hK, hX, hlocks⟩ := id C0
  unfold fX10_ask at h
  refine lv_aload_n hx hb dX10_ask_0 rfl (lv_at hl 0 rfl) ?_
  refine lv_iload_n hx hb dX10_ask_1 rfl (lv_at hl 1 rfl) ?_
  obtain ⟨o1, ho1, h⟩ := gm_bind_e h
  refine gm_callV (As := [.int x1]) (rest := []) (n := 1) (ci := 10) (q0 := 0) C0 hH (mX10_isPerson l dC dI  q q_now q_draft q_images q_kinds q_text q_duel q_cover q_clashes q_tally q_sayableByPair q_chosenPairs q_now_ending q_now_meaning q_now_cost q_now_alikeTo q_now_kind q_now_want q_now_saidAhead q_now_heardWord q_now_heardAnswer m_imagesKept m_bads m_nos m_fulls m_above m_below m_now_words m_now_people m_now_said m_now_undos m_now_heard x1   ho1) gX10_ask_X10_isPerson rfl (by decide +kernel) ⟨rfl, rfl, Nat.le_of_ble_eq_true rfl, Nat.le_of_ble_eq_true rfl⟩ gm_T_ok (fun _ => trivial) [0, 1] rfl rfl rfl [] rfl rfl rfl rfl hl.1 rfl (Nat.le_of_ble_eq_true rfl) dX10_ask_2 ⟨Nat.zero_le _, Nat.zero_le _⟩ (fun H locs hH => ?_)
  have hH : gm_H (dC, dI) A s (wX10_ask cI cR q q_now q_now_ending q_now_meaning q_now_alikeTo q_now_kind q_now_want q_now_saidAhead q_kinds q_kinds_0 q_kinds_1 q_kinds_2 q_kinds_3 q_kinds_4 q_kinds_5 q_draft q_images q_text q_duel q_cover q_clashes q_tally q_sayableByPair q_chosenPairs q_now_cost q_now_heardWord q_now_heardAnswer m_imagesKept m_bads m_nos m_fulls m_above m_below m_now_words m_now_people m_now_said m_now_undos m_now_heard m_now_ending m_now_meaning m_now_alikeTo m_now_kind m_now_want m_now_saidAhead) H locs := hH
  refine lv_if_eq (tgt := 24) hx hb dX10_ask_5 (by decide) (fun hc2 => ?_) (fun hc2 => ?_)
  · replace h := gm_pos hc2 h
    exact tX10_ask_b24 C0  h hH (lv_sub hl [0] rfl)
  · replace h := gm_neg hc2 h
    refine lv_aload_n hx hb dX10_ask_8 rfl (lv_at hl 0 rfl) ?_
    refine lv_iload_n hx hb dX10_ask_9 rfl (lv_at hl 2 rfl) ?_
    obtain ⟨o4, ho4, h⟩ := gm_bind_e h
    refine gm_callV (As := [.int x2]) (rest := []) (n := 1) (ci := 10) (q0 := 0) C0 hH (mX10_isWord l dC dI  q q_now q_draft q_images q_kinds q_text q_duel q_cover q_clashes q_tally q_sayableByPair q_chosenPairs q_now_ending q_now_meaning q_now_cost q_now_alikeTo q_now_kind q_now_want q_now_saidAhead q_now_heardWord q_now_heardAnswer m_imagesKept m_bads m_nos m_fulls m_above m_below m_now_words m_now_people m_now_said m_now_undos m_now_heard x2   ho4) gX10_ask_X10_isWord rfl (by decide +kernel) ⟨rfl, rfl, Nat.le_of_ble_eq_true rfl, Nat.le_of_ble_eq_true rfl⟩ gm_T_ok (fun _ => trivial) [0, 1] rfl rfl rfl [] rfl rfl rfl rfl hl.1 rfl (Nat.le_of_ble_eq_true rfl) dX10_ask_10 ⟨Nat.zero_le _, Nat.zero_le _⟩ (fun H locs hH => ?_)
    have hH : gm_H (dC, dI) A s (wX10_ask cI cR q q_now q_now_ending q_now_meaning q_now_alikeTo q_now_kind q_now_want q_now_saidAhead q_kinds q_kinds_0 q_kinds_1 q_kinds_2 q_kinds_3 q_kinds_4 q_kinds_5 q_draft q_images q_text q_duel q_cover q_clashes q_tally q_sayableByPair q_chosenPairs q_now_cost q_now_heardWord q_now_heardAnswer m_imagesKept m_bads m_nos m_fulls m_above m_below m_now_words m_now_people m_now_said m_now_undos m_now_heard m_now_ending m_now_meaning m_now_alikeTo m_now_kind m_now_want m_now_saidAhead) H locs := hH
    refine lv_if_eq (tgt := 24) hx hb dX10_ask_13 (by decide) (fun hc5 => ?_) (fun hc5 => ?_)
    · replace h := gm_pos hc5 h
      exact tX10_ask_b24 C0  h hH (lv_sub hl [0] rfl)
    · replace h := gm_neg hc5 h
      refine lv_aload_n hx hb dX10_ask_16 rfl (lv_at hl 0 rfl) ?_
      refine lv_iload_n hx hb dX10_ask_17 rfl (lv_at hl 3 rfl) ?_
      obtain ⟨o6, ho6, h⟩ := gm_bind_e h
      refine gm_callV (As := [.int x3]) (rest := []) (n := 1) (ci := 10) (q0 := 0) C0 hH (mX10_isWord l dC dI  q q_now q_draft q_images q_kinds q_text q_duel q_cover q_clashes q_tally q_sayableByPair q_chosenPairs q_now_ending q_now_meaning q_now_cost q_now_alikeTo q_now_kind q_now_want q_now_saidAhead q_now_heardWord q_now_heardAnswer m_imagesKept m_bads m_nos m_fulls m_above m_below m_now_words m_now_people m_now_said m_now_undos m_now_heard x3   ho6) gX10_ask_X10_isWord rfl (by decide +kernel) ⟨rfl, rfl, Nat.le_of_ble_eq_true rfl, Nat.le_of_ble_eq_true rfl⟩ gm_T_ok (fun _ => trivial) [0, 1] rfl rfl rfl [] rfl rfl rfl rfl hl.1 rfl (Nat.le_of_ble_eq_true rfl) dX10_ask_18 ⟨Nat.zero_le _, Nat.zero_le _⟩ (fun H locs hH => ?_)
      have hH : gm_H (dC, dI) A s (wX10_ask cI cR q q_now q_now_ending q_now_meaning q_now_alikeTo q_now_kind q_now_want q_now_saidAhead q_kinds q_kinds_0 q_kinds_1 q_kinds_2 q_kinds_3 q_kinds_4 q_kinds_5 q_draft q_images q_text q_duel q_cover q_clashes q_tally q_sayableByPair q_chosenPairs q_now_cost q_now_heardWord q_now_heardAnswer m_imagesKept m_bads m_nos m_fulls m_above m_below m_now_words m_now_people m_now_said m_now_undos m_now_heard m_now_ending m_now_meaning m_now_alikeTo m_now_kind m_now_want m_now_saidAhead) H locs := hH
      refine lv_if_ne (tgt := 31) hx hb dX10_ask_21 (by decide) (fun hc7 => ?_) (fun hc7 => ?_)
      · replace h := gm_neg hc7 h
        refine lv_aload_n hx hb dX10_ask_31 rfl (lv_at hl 0 rfl) ?_
        refine lv_iload_n hx hb dX10_ask_32 rfl (lv_at hl 1 rfl) ?_
        refine lv_iload_n hx hb dX10_ask_33 rfl (lv_at hl 2 rfl) ?_
        obtain ⟨o8, ho8, h⟩ := gm_bind_e h
        refine gm_callV (As := [.int x1, .int x2]) (rest := []) (n := 2) (ci := 10) (q0 := 0) C0 hH (mX10_answerBits l dC dI cI cR q q_now q_now_ending q_now_meaning q_now_alikeTo q_now_kind q_now_want q_kinds q_kinds_0 q_kinds_1 q_kinds_2 q_kinds_3 q_kinds_4 q_kinds_5 q_draft q_images q_text q_duel q_cover q_clashes q_tally q_sayableByPair q_chosenPairs q_now_cost q_now_saidAhead q_now_heardWord q_now_heardAnswer m_imagesKept m_bads m_nos m_fulls m_above m_below m_now_words m_now_people m_now_said m_now_undos m_now_heard m_now_ending m_now_meaning m_now_alikeTo m_now_kind m_now_want x1 x2   ho8) gX10_ask_X10_answerBits rfl (by decide +kernel) ⟨rfl, rfl, Nat.le_of_ble_eq_true rfl, Nat.le_of_ble_eq_true rfl⟩ gm_T_ok (fun _ => trivial) [0, 1, 2, 3, 4, 5, 6, 8, 9, 10, 11, 12, 13, 14] rfl rfl rfl [0, 1] rfl rfl rfl rfl hl.1 rfl (Nat.le_of_ble_eq_true rfl) dX10_ask_34 ⟨Nat.zero_le _, Nat.zero_le _⟩ (fun H locs hH => ?_)
        simp only [wX10_ask, wX10_answerBits, gm_sets, List.set_cons_succ, List.set_cons_zero] at hH
        have hH : gm_H (dC, dI) A s (wX10_ask cI cR q q_now q_now_ending q_now_meaning q_now_alikeTo q_now_kind q_now_want q_now_saidAhead q_kinds q_kinds_0 q_kinds_1 q_kinds_2 q_kinds_3 q_kinds_4 q_kinds_5 q_draft q_images q_text q_duel q_cover q_clashes q_tally q_sayableByPair q_chosenPairs q_now_cost q_now_heardWord q_now_heardAnswer m_imagesKept m_bads m_nos m_fulls m_above m_below m_now_words m_now_people m_now_said m_now_undos m_now_heard m_now_ending m_now_meaning m_now_alikeTo m_now_kind m_now_want m_now_saidAhead) H locs := hH
        refine lv_iload_n hx hb dX10_ask_37 rfl (lv_at hl 3 rfl) ?_
        refine lv_ishr hx hb dX10_ask_38 ?_
        refine lv_iconst (v := 1) hx hb dX10_ask_39 (by decide) ?_
        refine lv_iand hx hb dX10_ask_40 ?_
        refine lv_if_ne (tgt := 51) hx hb dX10_ask_41 (by decide) (fun hc9 => ?_) (fun hc9 => ?_)
        · replace h := gm_neg hc9 h
          refine lv_aload_n hx hb dX10_ask_51 rfl (lv_at hl 0 rfl) ?_
          refine gm_get (ci := 10) C0 hH inX10_ask_X10 0 0 1 rfl rfl (by decide) rfl rfl dX10_ask_52 ?_
          refine lv_iload_n hx hb dX10_ask_55 rfl (lv_at hl 3 rfl) ?_
          obtain ⟨o10, ho10, h⟩ := gm_bind_e h
          refine gm_callV (As := [.int x3]) (rest := []) (n := 1) (ci := 9) (q0 := 1) C0 hH (mX9_say l dC dI cI q_now q_now_saidAhead q_now_ending q_now_meaning q_now_cost q_now_alikeTo q_now_kind q_now_want q_now_heardWord q_now_heardAnswer m_now_words m_now_people m_now_said m_now_undos m_now_heard m_now_saidAhead x3   ho10) gX10_ask_X9_say rfl (by decide +kernel) ⟨rfl, rfl, Nat.le_of_ble_eq_true rfl, Nat.le_of_ble_eq_true rfl⟩ gm_T_ok (fun _ => trivial) [1, 7] rfl rfl rfl [0] rfl rfl rfl rfl hl.1 rfl (Nat.le_of_ble_eq_true rfl) dX10_ask_56 ⟨Nat.zero_le _, Nat.zero_le _⟩ (fun H locs hH => ?_)
          have hH : gm_H (dC, dI) A s (wX10_ask cI cR q q_now q_now_ending q_now_meaning q_now_alikeTo q_now_kind q_now_want q_now_saidAhead q_kinds q_kinds_0 q_kinds_1 q_kinds_2 q_kinds_3 q_kinds_4 q_kinds_5 q_draft q_images q_text q_duel q_cover q_clashes q_tally q_sayableByPair q_chosenPairs q_now_cost q_now_heardWord q_now_heardAnswer m_imagesKept m_bads m_nos m_fulls m_above m_below m_now_words m_now_people o10.1 o10.2.1 m_now_heard m_now_ending m_now_meaning m_now_alikeTo m_now_kind m_now_want o10.2.2) H locs := hH
          refine lv_aload_n hx hb dX10_ask_59 rfl (lv_at hl 0 rfl) ?_
          refine gm_get (ci := 10) C0 hH inX10_ask_X10 0 0 1 rfl rfl (by decide) rfl rfl dX10_ask_60 ?_
          refine gm_get (ci := 9) C0 hH inX10_ask_X9 1 1 2 rfl rfl (by decide) rfl rfl dX10_ask_63 ?_
          refine lv_iload_n hx hb dX10_ask_66 rfl (lv_at hl 3 rfl) ?_
          obtain ⟨hi11, h⟩ := gm_chk_e h
          refine gm_iald C0 hH hi11 3 0 rfl rfl dX10_ask_67 ?_
          obtain rfl := Option.some.inj h
          exact gm_iret C0 hH dX10_ask_68
        · replace h := gm_pos hc9 h
          refine lv_aload_n hx hb dX10_ask_44 rfl (lv_at hl 0 rfl) ?_
          refine lv_bipush (v := (-3)) hx hb dX10_ask_45 (by decide) ?_
          obtain ⟨o12, ho12, h⟩ := gm_bind_e h
          refine gm_callV (As := [.int (-3)]) (rest := []) (n := 1) (ci := 10) (q0 := 0) C0 hH (mX10_refuse l dC dI  q q_now q_draft q_images q_kinds q_text q_duel q_cover q_clashes q_tally q_sayableByPair q_chosenPairs m_imagesKept m_bads m_nos m_fulls m_above m_below ((-3))   ho12) gX10_ask_X10_refuse rfl (by decide +kernel) ⟨rfl, rfl, Nat.le_of_ble_eq_true rfl, Nat.le_of_ble_eq_true rfl⟩ gm_T_ok (fun _ => trivial) [0] rfl rfl rfl [] rfl rfl rfl rfl hl.1 rfl (Nat.le_of_ble_eq_true rfl) dX10_ask_47 ⟨Nat.zero_le _, Nat.zero_le _⟩ (fun H locs hH => ?_)
          have hH : gm_H (dC, dI) A s (wX10_ask cI cR q q_now q_now_ending q_now_meaning q_now_alikeTo q_now_kind q_now_want q_now_saidAhead q_kinds q_kinds_0 q_kinds_1 q_kinds_2 q_kinds_3 q_kinds_4 q_kinds_5 q_draft q_images q_text q_duel q_cover q_clashes q_tally q_sayableByPair q_chosenPairs q_now_cost q_now_heardWord q_now_heardAnswer m_imagesKept o12.2.1 o12.2.2.1 o12.2.2.2 m_above m_below m_now_words m_now_people m_now_said m_now_undos m_now_heard m_now_ending m_now_meaning m_now_alikeTo m_now_kind m_now_want m_now_saidAhead) H locs := hH
          obtain rfl := Option.some.inj h
          exact gm_iret C0 hH dX10_ask_50
      · replace h := gm_pos hc7 h
        exact tX10_ask_b24 C0  h hH (lv_sub hl [0] rfl)

/-! X10_rest -/
abbrev wX10_rest (q q_now q_draft q_images q_kinds q_text q_duel q_cover q_clashes q_tally q_sayableByPair q_chosenPairs q_now_ending q_now_meaning q_now_cost q_now_alikeTo q_now_kind q_now_want q_now_saidAhead q_now_heardWord q_now_heardAnswer : Nat) (m_imagesKept : Int32) (m_bads : Int32) (m_nos : Int32) (m_fulls : Int32) (m_above : Int64) (m_below : Int64) (m_now_words : Int32) (m_now_people : Int32) (m_now_said : Int32) (m_now_undos : Int32) (m_now_heard : Int32) : va_W := [(q, .inr (10, [.ref q_now, .ref q_draft, .ref q_images, .int m_imagesKept, .ref q_kinds, .ref q_text, .ref q_duel, .ref q_cover, .int m_bads, .int m_nos, .int m_fulls, .long m_above, .long m_below, .ref q_clashes, .ref q_tally, .ref q_sayableByPair, .ref q_chosenPairs])), (q_now, .inr (9, [.ref q_now_ending, .ref q_now_meaning, .ref q_now_cost, .int m_now_words, .ref q_now_alikeTo, .ref q_now_kind, .ref q_now_want, .int m_now_people, .int m_now_said, .ref q_now_saidAhead, .int m_now_undos, .ref q_now_heardWord, .ref q_now_heardAnswer, .int m_now_heard]))]
abbrev rX10_rest : Room := { frames := 1, cells := 0, slots := 0, locals := 20 }
def fX10_rest (N : Nat) (m_now_said : Int32) (m_now_undos : Int32)  : Option (Int32 × Int32 × Int32) := gm_bind (fJ6_bitCount_0f7a4 N m_now_said) (fun o1 => some (o1, 0, 0))
set_option maxRecDepth 20000 in
theorem inX10_rest_X10 : ∀ w ∈ u_ws RX10 TX10 17, w ∈ wsX10_rest := fun w h => by
  obtain ⟨k, hk, rfl⟩ := List.mem_map.mp h
  have hk2 := List.mem_range.mp hk
  exact List.mem_of_getElem? (i := 11 + k) (by rcases (show k = 0 ∨ k = 1 ∨ k = 2 ∨ k = 3 ∨ k = 4 ∨ k = 5 ∨ k = 6 ∨ k = 7 ∨ k = 8 ∨ k = 9 ∨ k = 10 ∨ k = 11 ∨ k = 12 ∨ k = 13 ∨ k = 14 ∨ k = 15 ∨ k = 16 by omega) with rfl | rfl | rfl | rfl | rfl | rfl | rfl | rfl | rfl | rfl | rfl | rfl | rfl | rfl | rfl | rfl | rfl <;> rfl)
set_option maxRecDepth 20000 in
theorem inX10_rest_X9 : ∀ w ∈ u_ws RX9 TX9 14, w ∈ wsX10_rest := fun w h => by
  obtain ⟨k, hk, rfl⟩ := List.mem_map.mp h
  have hk2 := List.mem_range.mp hk
  exact List.mem_of_getElem? (i := 28 + k) (by rcases (show k = 0 ∨ k = 1 ∨ k = 2 ∨ k = 3 ∨ k = 4 ∨ k = 5 ∨ k = 6 ∨ k = 7 ∨ k = 8 ∨ k = 9 ∨ k = 10 ∨ k = 11 ∨ k = 12 ∨ k = 13 by omega) with rfl | rfl | rfl | rfl | rfl | rfl | rfl | rfl | rfl | rfl | rfl | rfl | rfl | rfl <;> rfl)
set_option maxRecDepth 100000 in
set_option maxHeartbeats 4000000 in
theorem mX10_rest (l : Launch) (dC : Nat → ClassId) (dI : Nat → Nat → Nat) (q q_now q_draft q_images q_kinds q_text q_duel q_cover q_clashes q_tally q_sayableByPair q_chosenPairs q_now_ending q_now_meaning q_now_cost q_now_alikeTo q_now_kind q_now_want q_now_saidAhead q_now_heardWord q_now_heardAnswer : Nat) (m_imagesKept : Int32) (m_bads : Int32) (m_nos : Int32) (m_fulls : Int32) (m_above : Int64) (m_below : Int64) (m_now_words : Int32) (m_now_people : Int32) (m_now_said : Int32) (m_now_undos : Int32) (m_now_heard : Int32)   {N : Nat} {out : Int32 × Int32 × Int32} (h : fX10_rest N m_now_said m_now_undos = some out) : gm_Met l yX10_rest wsX10_rest rX10_rest (dC, dI) [] gm_T [.ref q] (wX10_rest  q q_now q_draft q_images q_kinds q_text q_duel q_cover q_clashes q_tally q_sayableByPair q_chosenPairs q_now_ending q_now_meaning q_now_cost q_now_alikeTo q_now_kind q_now_want q_now_saidAhead q_now_heardWord q_now_heardAnswer m_imagesKept m_bads m_nos m_fulls m_above m_below m_now_words m_now_people m_now_said m_now_undos m_now_heard) (some (.int out.1)) (wX10_rest  q q_now q_draft q_images q_kinds q_text q_duel q_cover q_clashes q_tally q_sayableByPair q_chosenPairs q_now_ending q_now_meaning q_now_cost q_now_alikeTo q_now_kind q_now_want q_now_saidAhead q_now_heardWord q_now_heardAnswer m_imagesKept m_bads m_nos m_fulls m_above m_below m_now_words m_now_people out.2.1 out.2.2 m_now_heard) := by
  refine gm_ofW (cc := cX10_rest) (maxL := 2) (ret := (some .int)) (by decide +kernel) rfl (Nat.le_of_ble_eq_true rfl) ?_
  intro p e s m below meth c A C0 hH ls hl
  generalize ([.ref q] : List Value).toArray = args at C0 ⊢
  have hl : lv_has ls 2 [(0, .ref q)] := hl
  generalize s.heap = H at hH ⊢
  generalize ([] : List Loc) = locs at hH ⊢
  obtain ⟨hx, hb, hml, hr, hown, hts, hA, hK, hX, hlocks⟩ := id C0
  unfold fX10_rest at h
  refine lv_aload_n hx hb dX10_rest_0 rfl (lv_at hl 0 rfl) ?_
  refine gm_get (ci := 10) C0 hH inX10_rest_X10 0 0 1 rfl rfl (by decide) rfl rfl dX10_rest_1 ?_
  refine gm_get (ci := 9) C0 hH inX10_rest_X9 1 8 2 rfl rfl (by decide) rfl rfl dX10_rest_4 ?_
  obtain ⟨o1, ho1, h⟩ := gm_bind_e h
  refine gm_callS (As := [.int m_now_said]) (rest := []) (n := 1) C0 hH (mJ6_bitCount_0f7a4 l dC dI    m_now_said   ho1) gX10_rest_J6_bitCount_0f7a4 rfl (by decide +kernel) ⟨rfl, rfl, Nat.le_of_ble_eq_true rfl, Nat.le_of_ble_eq_true rfl⟩ gm_T_ok (fun _ => trivial) [] rfl rfl rfl [] rfl rfl hl.1 rfl (Nat.le_of_ble_eq_true rfl) dX10_rest_7 ⟨Nat.zero_le _, Nat.zero_le _⟩ (fun H locs hH => ?_)
  have hH : gm_H (dC, dI) A s (wX10_rest  q q_now q_draft q_images q_kinds q_text q_duel q_cover q_clashes q_tally q_sayableByPair q_chosenPairs q_now_ending q_now_meaning q_now_cost q_now_alikeTo q_now_kind q_now_want q_now_saidAhead q_now_heardWord q_now_heardAnswer m_imagesKept m_bads m_nos m_fulls m_above m_below m_now_words m_now_people m_now_said m_now_undos m_now_heard) H locs := hH
  refine lv_istore_n (lv' := [(1, .int o1), (0, .ref q)]) hx hb dX10_rest_10 rfl hl (by decide) rfl (fun ls hl => ?_)
  refine lv_aload_n hx hb dX10_rest_11 rfl (lv_at hl 1 rfl) ?_
  refine gm_get (ci := 10) C0 hH inX10_rest_X10 0 0 1 rfl rfl (by decide) rfl rfl dX10_rest_12 ?_
  refine lv_iconst (v := 0) hx hb dX10_rest_15 (by decide) ?_
  refine gm_putf (ci := 9) C0 hH inX10_rest_X9 tyX9_ok nmX9 1 8 2 rfl rfl (by decide) rfl rfl rfl rfl rfl (Nat.le_of_ble_eq_true rfl) dX10_rest_16 (fun H locs hH => ?_)
  have hH : gm_H (dC, dI) A s (wX10_rest  q q_now q_draft q_images q_kinds q_text q_duel q_cover q_clashes q_tally q_sayableByPair q_chosenPairs q_now_ending q_now_meaning q_now_cost q_now_alikeTo q_now_kind q_now_want q_now_saidAhead q_now_heardWord q_now_heardAnswer m_imagesKept m_bads m_nos m_fulls m_above m_below m_now_words m_now_people 0 m_now_undos m_now_heard) H locs := hH
  refine lv_aload_n hx hb dX10_rest_19 rfl (lv_at hl 1 rfl) ?_
  refine gm_get (ci := 10) C0 hH inX10_rest_X10 0 0 1 rfl rfl (by decide) rfl rfl dX10_rest_20 ?_
  refine lv_iconst (v := 0) hx hb dX10_rest_23 (by decide) ?_
  refine gm_putf (ci := 9) C0 hH inX10_rest_X9 tyX9_ok nmX9 1 10 3 rfl rfl (by decide) rfl rfl rfl rfl rfl (Nat.le_of_ble_eq_true rfl) dX10_rest_24 (fun H locs hH => ?_)
  have hH : gm_H (dC, dI) A s (wX10_rest  q q_now q_draft q_images q_kinds q_text q_duel q_cover q_clashes q_tally q_sayableByPair q_chosenPairs q_now_ending q_now_meaning q_now_cost q_now_alikeTo q_now_kind q_now_want q_now_saidAhead q_now_heardWord q_now_heardAnswer m_imagesKept m_bads m_nos m_fulls m_above m_below m_now_words m_now_people 0 0 m_now_heard) H locs := hH
  refine lv_iload_n hx hb dX10_rest_27 rfl (lv_at hl 0 rfl) ?_
  obtain rfl := Option.some.inj h
  exact gm_iret C0 hH dX10_rest_28

/-! X10_undo -/
abbrev wX10_undo (cI : ClassId) (q q_now q_now_saidAhead q_draft q_images q_kinds q_text q_duel q_cover q_clashes q_tally q_sayableByPair q_chosenPairs q_now_ending q_now_meaning q_now_cost q_now_alikeTo q_now_kind q_now_want q_now_heardWord q_now_heardAnswer : Nat) (m_imagesKept : Int32) (m_bads : Int32) (m_nos : Int32) (m_fulls : Int32) (m_above : Int64) (m_below : Int64) (m_now_words : Int32) (m_now_people : Int32) (m_now_said : Int32) (m_now_undos : Int32) (m_now_heard : Int32) (m_now_saidAhead : Nat → Int32) : va_W := [(q, .inr (10, [.ref q_now, .ref q_draft, .ref q_images, .int m_imagesKept, .ref q_kinds, .ref q_text, .ref q_duel, .ref q_cover, .int m_bads, .int m_nos, .int m_fulls, .long m_above, .long m_below, .ref q_clashes, .ref q_tally, .ref q_sayableByPair, .ref q_chosenPairs])), (q_now, .inr (9, [.ref q_now_ending, .ref q_now_meaning, .ref q_now_cost, .int m_now_words, .ref q_now_alikeTo, .ref q_now_kind, .ref q_now_want, .int m_now_people, .int m_now_said, .ref q_now_saidAhead, .int m_now_undos, .ref q_now_heardWord, .ref q_now_heardAnswer, .int m_now_heard])), (q_now_saidAhead, .inl (cI, 8, .inl m_now_saidAhead))]
abbrev rX10_undo : Room := { frames := 1, cells := 0, slots := 0, locals := 21 }
def fX10_undo (N : Nat) (m_bads : Int32) (m_nos : Int32) (m_fulls : Int32) (m_now_said : Int32) (m_now_undos : Int32) (m_now_saidAhead : Nat → Int32)  : Option (Int32 × Int32 × Int32 × Int32 × Int32 × Int32) := (if m_now_undos = 0 then gm_bind (fX10_refuse N m_bads m_nos m_fulls ((-3))) (fun o4 => some (o4.1, o4.2.1, o4.2.2.1, o4.2.2.2, m_now_said, m_now_undos)) else gm_bind (fX9_takeBack N m_now_said m_now_undos m_now_saidAhead) (fun o2 => gm_bind (fJ6_bitCount_0f7a4 N o2.1) (fun o3 => some (o3, m_bads, m_nos, m_fulls, o2.1, o2.2))))
set_option maxRecDepth 20000 in
theorem inX10_undo_X10 : ∀ w ∈ u_ws RX10 TX10 17, w ∈ wsX10_undo := fun w h => by
  obtain ⟨k, hk, rfl⟩ := List.mem_map.mp h
  have hk2 := List.mem_range.mp hk
  exact List.mem_of_getElem? (i := 27 + k) (by rcases (show k = 0 ∨ k = 1 ∨ k = 2 ∨ k = 3 ∨ k = 4 ∨ k = 5 ∨ k = 6 ∨ k = 7 ∨ k = 8 ∨ k = 9 ∨ k = 10 ∨ k = 11 ∨ k = 12 ∨ k = 13 ∨ k = 14 ∨ k = 15 ∨ k = 16 by omega) with rfl | rfl | rfl | rfl | rfl | rfl | rfl | rfl | rfl | rfl | rfl | rfl | rfl | rfl | rfl | rfl | rfl <;> rfl)
set_option maxRecDepth 20000 in
theorem inX10_undo_X9 : ∀ w ∈ u_ws RX9 TX9 14, w ∈ wsX10_undo := fun w h => by
  obtain ⟨k, hk, rfl⟩ := List.mem_map.mp h
  have hk2 := List.mem_range.mp hk
  exact List.mem_of_getElem? (i := 44 + k) (by rcases (show k = 0 ∨ k = 1 ∨ k = 2 ∨ k = 3 ∨ k = 4 ∨ k = 5 ∨ k = 6 ∨ k = 7 ∨ k = 8 ∨ k = 9 ∨ k = 10 ∨ k = 11 ∨ k = 12 ∨ k = 13 by omega) with rfl | rfl | rfl | rfl | rfl | rfl | rfl | rfl | rfl | rfl | rfl | rfl | rfl | rfl <;> rfl)
set_option maxRecDepth 100000 in
set_option maxHeartbeats 4000000 in
theorem mX10_undo (l : Launch) (dC : Nat → ClassId) (dI : Nat → Nat → Nat) (cI : ClassId) (q q_now q_now_saidAhead q_draft q_images q_kinds q_text q_duel q_cover q_clashes q_tally q_sayableByPair q_chosenPairs q_now_ending q_now_meaning q_now_cost q_now_alikeTo q_now_kind q_now_want q_now_heardWord q_now_heardAnswer : Nat) (m_imagesKept : Int32) (m_bads : Int32) (m_nos : Int32) (m_fulls : Int32) (m_above : Int64) (m_below : Int64) (m_now_words : Int32) (m_now_people : Int32) (m_now_said : Int32) (m_now_undos : Int32) (m_now_heard : Int32) (m_now_saidAhead : Nat → Int32)   {N : Nat} {out : Int32 × Int32 × Int32 × Int32 × Int32 × Int32} (h : fX10_undo N m_bads m_nos m_fulls m_now_said m_now_undos m_now_saidAhead = some out) : gm_Met l yX10_undo wsX10_undo rX10_undo (dC, dI) [(cI, .int)] gm_T [.ref q] (wX10_undo cI q q_now q_now_saidAhead q_draft q_images q_kinds q_text q_duel q_cover q_clashes q_tally q_sayableByPair q_chosenPairs q_now_ending q_now_meaning q_now_cost q_now_alikeTo q_now_kind q_now_want q_now_heardWord q_now_heardAnswer m_imagesKept m_bads m_nos m_fulls m_above m_below m_now_words m_now_people m_now_said m_now_undos m_now_heard m_now_saidAhead) (some (.int out.1)) (wX10_undo cI q q_now q_now_saidAhead q_draft q_images q_kinds q_text q_duel q_cover q_clashes q_tally q_sayableByPair q_chosenPairs q_now_ending q_now_meaning q_now_cost q_now_alikeTo q_now_kind q_now_want q_now_heardWord q_now_heardAnswer m_imagesKept out.2.1 out.2.2.1 out.2.2.2.1 m_above m_below m_now_words m_now_people out.2.2.2.2.1 out.2.2.2.2.2 m_now_heard m_now_saidAhead) := by
  refine gm_ofW (cc := cX10_undo) (maxL := 1) (ret := (some .int)) (by decide +kernel) rfl (Nat.le_of_ble_eq_true rfl) ?_
  intro p e s m below meth c A C0 hH ls hl
  generalize ([.ref q] : List Value).toArray = args at C0 ⊢
  have hl : lv_has ls 1 [(0, .ref q)] := hl
  generalize s.heap = H at hH ⊢
  generalize ([] : List Loc) = locs at hH ⊢
  obtain ⟨hx, hb, hml, hr, hown, hts, hA, hK, hX, hlocks⟩ := id C0
  unfold fX10_undo at h
  refine lv_aload_n hx hb dX10_undo_0 rfl (lv_at hl 0 rfl) ?_
  refine gm_get (ci := 10) C0 hH inX10_undo_X10 0 0 1 rfl rfl (by decide) rfl rfl dX10_undo_1 ?_
  refine gm_get (ci := 9) C0 hH inX10_undo_X9 1 10 2 rfl rfl (by decide) rfl rfl dX10_undo_4 ?_
  refine lv_if_ne (tgt := 17) hx hb dX10_undo_7 (by decide) (fun hc1 => ?_) (fun hc1 => ?_)
  · replace h := gm_neg hc1 h
    refine lv_aload_n hx hb dX10_undo_17 rfl (lv_at hl 0 rfl) ?_
    refine gm_get (ci := 10) C0 hH inX10_undo_X10 0 0 1 rfl rfl (by decide) rfl rfl dX10_undo_18 ?_
    obtain ⟨o2, ho2, h⟩ := gm_bind_e h
    refine gm_callV (As := []) (rest := []) (n := 0) (ci := 9) (q0 := 1) C0 hH (mX9_takeBack l dC dI cI q_now q_now_saidAhead q_now_ending q_now_meaning q_now_cost q_now_alikeTo q_now_kind q_now_want q_now_heardWord q_now_heardAnswer m_now_words m_now_people m_now_said m_now_undos m_now_heard m_now_saidAhead    ho2) gX10_undo_X9_takeBack rfl (by decide +kernel) ⟨rfl, rfl, Nat.le_of_ble_eq_true rfl, Nat.le_of_ble_eq_true rfl⟩ gm_T_ok (fun _ => trivial) [1, 2] rfl rfl rfl [0] rfl rfl rfl rfl hl.1 rfl (Nat.le_of_ble_eq_true rfl) dX10_undo_21 ⟨Nat.zero_le _, Nat.zero_le _⟩ (fun H locs hH => ?_)
    have hH : gm_H (dC, dI) A s (wX10_undo cI q q_now q_now_saidAhead q_draft q_images q_kinds q_text q_duel q_cover q_clashes q_tally q_sayableByPair q_chosenPairs q_now_ending q_now_meaning q_now_cost q_now_alikeTo q_now_kind q_now_want q_now_heardWord q_now_heardAnswer m_imagesKept m_bads m_nos m_fulls m_above m_below m_now_words m_now_people o2.1 o2.2 m_now_heard m_now_saidAhead) H locs := hH
    refine lv_aload_n hx hb dX10_undo_24 rfl (lv_at hl 0 rfl) ?_
    refine gm_get (ci := 10) C0 hH inX10_undo_X10 0 0 1 rfl rfl (by decide) rfl rfl dX10_undo_25 ?_
    refine gm_get (ci := 9) C0 hH inX10_undo_X9 1 8 3 rfl rfl (by decide) rfl rfl dX10_undo_28 ?_
    obtain ⟨o3, ho3, h⟩ := gm_bind_e h
    refine gm_callS (As := [.int o2.1]) (rest := []) (n := 1) C0 hH (mJ6_bitCount_0f7a4 l dC dI    o2.1   ho3) gX10_undo_J6_bitCount_0f7a4 rfl (by decide +kernel) ⟨rfl, rfl, Nat.le_of_ble_eq_true rfl, Nat.le_of_ble_eq_true rfl⟩ gm_T_ok (fun _ => trivial) [] rfl rfl rfl [] rfl rfl hl.1 rfl (Nat.le_of_ble_eq_true rfl) dX10_undo_31 ⟨Nat.zero_le _, Nat.zero_le _⟩ (fun H locs hH => ?_)
    have hH : gm_H (dC, dI) A s (wX10_undo cI q q_now q_now_saidAhead q_draft q_images q_kinds q_text q_duel q_cover q_clashes q_tally q_sayableByPair q_chosenPairs q_now_ending q_now_meaning q_now_cost q_now_alikeTo q_now_kind q_now_want q_now_heardWord q_now_heardAnswer m_imagesKept m_bads m_nos m_fulls m_above m_below m_now_words m_now_people o2.1 o2.2 m_now_heard m_now_saidAhead) H locs := hH
    obtain rfl := Option.some.inj h
    exact gm_iret C0 hH dX10_undo_34
  · replace h := gm_pos hc1 h
    refine lv_aload_n hx hb dX10_undo_10 rfl (lv_at hl 0 rfl) ?_
    refine lv_bipush (v := (-3)) hx hb dX10_undo_11 (by decide) ?_
    obtain ⟨o4, ho4, h⟩ := gm_bind_e h
    refine gm_callV (As := [.int (-3)]) (rest := []) (n := 1) (ci := 10) (q0 := 0) C0 hH (mX10_refuse l dC dI  q q_now q_draft q_images q_kinds q_text q_duel q_cover q_clashes q_tally q_sayableByPair q_chosenPairs m_imagesKept m_bads m_nos m_fulls m_above m_below ((-3))   ho4) gX10_undo_X10_refuse rfl (by decide +kernel) ⟨rfl, rfl, Nat.le_of_ble_eq_true rfl, Nat.le_of_ble_eq_true rfl⟩ gm_T_ok (fun _ => trivial) [0] rfl rfl rfl [] rfl rfl rfl rfl hl.1 rfl (Nat.le_of_ble_eq_true rfl) dX10_undo_13 ⟨Nat.zero_le _, Nat.zero_le _⟩ (fun H locs hH => ?_)
    have hH : gm_H (dC, dI) A s (wX10_undo cI q q_now q_now_saidAhead q_draft q_images q_kinds q_text q_duel q_cover q_clashes q_tally q_sayableByPair q_chosenPairs q_now_ending q_now_meaning q_now_cost q_now_alikeTo q_now_kind q_now_want q_now_heardWord q_now_heardAnswer m_imagesKept o4.2.1 o4.2.2.1 o4.2.2.2 m_above m_below m_now_words m_now_people m_now_said m_now_undos m_now_heard m_now_saidAhead) H locs := hH
    obtain rfl := Option.some.inj h
    exact gm_iret C0 hH dX10_undo_16

/-! X10_of -/
abbrev wX10_of (cI : ClassId) (q q_now q_now_ending q_now_meaning q_now_cost q_draft q_images q_kinds q_text q_duel q_cover q_clashes q_tally q_sayableByPair q_chosenPairs q_now_alikeTo q_now_kind q_now_want q_now_saidAhead q_now_heardWord q_now_heardAnswer : Nat) (m_imagesKept : Int32) (m_bads : Int32) (m_nos : Int32) (m_fulls : Int32) (m_above : Int64) (m_below : Int64) (m_now_words : Int32) (m_now_people : Int32) (m_now_said : Int32) (m_now_undos : Int32) (m_now_heard : Int32) (m_now_ending : Nat → Int32) (m_now_meaning : Nat → Int32) (m_now_cost : Nat → Int32) : va_W := [(q, .inr (10, [.ref q_now, .ref q_draft, .ref q_images, .int m_imagesKept, .ref q_kinds, .ref q_text, .ref q_duel, .ref q_cover, .int m_bads, .int m_nos, .int m_fulls, .long m_above, .long m_below, .ref q_clashes, .ref q_tally, .ref q_sayableByPair, .ref q_chosenPairs])), (q_now, .inr (9, [.ref q_now_ending, .ref q_now_meaning, .ref q_now_cost, .int m_now_words, .ref q_now_alikeTo, .ref q_now_kind, .ref q_now_want, .int m_now_people, .int m_now_said, .ref q_now_saidAhead, .int m_now_undos, .ref q_now_heardWord, .ref q_now_heardAnswer, .int m_now_heard])), (q_now_ending, .inl (cI, 10, .inl m_now_ending)), (q_now_meaning, .inl (cI, 10, .inl m_now_meaning)), (q_now_cost, .inl (cI, 10, .inl m_now_cost))]
abbrev rX10_of : Room := { frames := 2, cells := 0, slots := 0, locals := 42 }
def fX10_of_b16 (N : Nat)  (m_bads : Int32) (m_nos : Int32) (m_fulls : Int32) : Option (Int32 × Int32 × Int32 × Int32) := gm_bind (fX10_refuse N m_bads m_nos m_fulls ((-2))) (fun o3 => some (o3.1, o3.2.1, o3.2.2.1, o3.2.2.2))
def fX10_of (N : Nat) (m_bads : Int32) (m_nos : Int32) (m_fulls : Int32) (m_now_words : Int32) (m_now_said : Int32) (m_now_ending : Nat → Int32) (m_now_meaning : Nat → Int32) (m_now_cost : Nat → Int32) (x1 : Int32) (x2 : Int32) : Option (Int32 × Int32 × Int32 × Int32) := gm_bind (fX10_isWord N m_now_words x1) (fun o1 => (if o1 = 0 then (fX10_of_b16 N  m_bads m_nos m_fulls) else gm_bind (fX10_fits N x2 4) (fun o4 => (if o4 = 0 then (fX10_of_b16 N  m_bads m_nos m_fulls) else (if x2 = 0 then gm_chk x1 10 (some ((m_now_ending (Int32.toNatClampNeg x1)), m_bads, m_nos, m_fulls)) else (if x2 = 1 then gm_chk x1 10 (some ((m_now_meaning (Int32.toNatClampNeg x1)), m_bads, m_nos, m_fulls)) else (if x2 = 2 then gm_chk x1 10 (some ((m_now_cost (Int32.toNatClampNeg x1)), m_bads, m_nos, m_fulls)) else some (((m_now_said >>> (x1 &&& 31)) &&& 1), m_bads, m_nos, m_fulls))))))))
set_option maxRecDepth 20000 in
theorem inX10_of_X10 : ∀ w ∈ u_ws RX10 TX10 17, w ∈ wsX10_of := fun w h => by
  obtain ⟨k, hk, rfl⟩ := List.mem_map.mp h
  have hk2 := List.mem_range.mp hk
  exact List.mem_of_getElem? (i := 22 + k) (by rcases (show k = 0 ∨ k = 1 ∨ k = 2 ∨ k = 3 ∨ k = 4 ∨ k = 5 ∨ k = 6 ∨ k = 7 ∨ k = 8 ∨ k = 9 ∨ k = 10 ∨ k = 11 ∨ k = 12 ∨ k = 13 ∨ k = 14 ∨ k = 15 ∨ k = 16 by omega) with rfl | rfl | rfl | rfl | rfl | rfl | rfl | rfl | rfl | rfl | rfl | rfl | rfl | rfl | rfl | rfl | rfl <;> rfl)
set_option maxRecDepth 20000 in
theorem inX10_of_X9 : ∀ w ∈ u_ws RX9 TX9 14, w ∈ wsX10_of := fun w h => by
  obtain ⟨k, hk, rfl⟩ := List.mem_map.mp h
  have hk2 := List.mem_range.mp hk
  exact List.mem_of_getElem? (i := 39 + k) (by rcases (show k = 0 ∨ k = 1 ∨ k = 2 ∨ k = 3 ∨ k = 4 ∨ k = 5 ∨ k = 6 ∨ k = 7 ∨ k = 8 ∨ k = 9 ∨ k = 10 ∨ k = 11 ∨ k = 12 ∨ k = 13 by omega) with rfl | rfl | rfl | rfl | rfl | rfl | rfl | rfl | rfl | rfl | rfl | rfl | rfl | rfl <;> rfl)
set_option maxRecDepth 100000 in
set_option maxHeartbeats 4000000 in
theorem tX10_of_b16 {p : Program} {l : Launch} {e : Env} {s : State} {m : MethodId} {args : Array Value} {below : List Frame} {meth : Method} {c : Code} {A : Nat → Prop} {dC : Nat → ClassId} {dI : Nat → Nat → Nat} {cI : ClassId} {q q_now q_now_ending q_now_meaning q_now_cost q_draft q_images q_kinds q_text q_duel q_cover q_clashes q_tally q_sayableByPair q_chosenPairs q_now_alikeTo q_now_kind q_now_want q_now_saidAhead q_now_heardWord q_now_heardAnswer : Nat} {m_imagesKept : Int32} {m_bads : Int32} {m_nos : Int32} {m_fulls : Int32} {m_above : Int64} {m_below : Int64} {m_now_words : Int32} {m_now_people : Int32} {m_now_said : Int32} {m_now_undos : Int32} {m_now_heard : Int32} {m_now_ending : Nat → Int32} {m_now_meaning : Nat → Int32} {m_now_cost : Nat → Int32} (C0 : gm_C p s m args meth c (dC, dI) [(cI, .int)] A gm_T RX10 cX10_of 3 (some .int) wsX10_of) {N : Nat} {out : Int32 × Int32 × Int32 × Int32}    {H : Heap} {locs : List Loc} {ls : Array Slot} (h : fX10_of_b16 N  m_bads m_nos m_fulls = some out) (hH : gm_H (dC, dI) A s (wX10_of cI q q_now q_now_ending q_now_meaning q_now_cost q_draft q_images q_kinds q_text q_duel q_cover q_clashes q_tally q_sayableByPair q_chosenPairs q_now_alikeTo q_now_kind q_now_want q_now_saidAhead q_now_heardWord q_now_heardAnswer m_imagesKept m_bads m_nos m_fulls m_above m_below m_now_words m_now_people m_now_said m_now_undos m_now_heard m_now_ending m_now_meaning m_now_cost) H locs) (hl : lv_has ls 3 [(0, .ref q)]) : W p l e rX10_of s m args below meth c H locs 0 0 (MQ below (gm_Q (dC, dI) [(cI, .int)] A (some (.int out.1)) (wX10_of cI q q_now q_now_ending q_now_meaning q_now_cost q_draft q_images q_kinds q_text q_duel q_cover q_clashes q_tally q_sayableByPair q_chosenPairs q_now_alikeTo q_now_kind q_now_want q_now_saidAhead q_now_heardWord q_now_heardAnswer m_imagesKept out.2.1 out.2.2.1 out.2.2.2 m_above m_below m_now_words m_now_people m_now_said m_now_undos m_now_heard m_now_ending m_now_meaning m_now_cost)) args s 0 0 A) (F0 m 16 ls []) := by
  obtain ⟨hx, hb, hml, hr, hown, hts, hA, hK, hX, hlocks⟩ := id C0
  unfold fX10_of_b16 at h
  refine lv_aload_n hx hb dX10_of_16 rfl (lv_at hl 0 rfl) ?_
  refine lv_bipush (v := (-2)) hx hb dX10_of_17 (by decide) ?_
  obtain ⟨o3, ho3, h⟩ := gm_bind_e h
  refine gm_callV (As := [.int (-2)]) (rest := []) (n := 1) (ci := 10) (q0 := 0) C0 hH (mX10_refuse l dC dI  q q_now q_draft q_images q_kinds q_text q_duel q_cover q_clashes q_tally q_sayableByPair q_chosenPairs m_imagesKept m_bads m_nos m_fulls m_above m_below ((-2))   ho3) gX10_of_X10_refuse rfl (by decide +kernel) ⟨rfl, rfl, Nat.le_of_ble_eq_true rfl, Nat.le_of_ble_eq_true rfl⟩ gm_T_ok (fun _ => trivial) [0] rfl rfl rfl [] rfl rfl rfl rfl hl.1 rfl (Nat.le_of_ble_eq_true rfl) dX10_of_19 ⟨Nat.zero_le _, Nat.zero_le _⟩ (fun H locs hH => ?_)
  have hH : gm_H (dC, dI) A s (wX10_of cI q q_now q_now_ending q_now_meaning q_now_cost q_draft q_images q_kinds q_text q_duel q_cover q_clashes q_tally q_sayableByPair q_chosenPairs q_now_alikeTo q_now_kind q_now_want q_now_saidAhead q_now_heardWord q_now_heardAnswer m_imagesKept o3.2.1 o3.2.2.1 o3.2.2.2 m_above m_below m_now_words m_now_people m_now_said m_now_undos m_now_heard m_now_ending m_now_meaning m_now_cost) H locs := hH
  obtain rfl := Option.some.inj h
  exact gm_iret C0 hH dX10_of_22
set_option maxRecDepth 100000 in
set_option maxHeartbeats 4000000 in
theorem mX10_of (l : Launch) (dC : Nat → ClassId) (dI : Nat → Nat → Nat) (cI : ClassId) (q q_now q_now_ending q_now_meaning q_now_cost q_draft q_images q_kinds q_text q_duel q_cover q_clashes q_tally q_sayableByPair q_chosenPairs q_now_alikeTo q_now_kind q_now_want q_now_saidAhead q_now_heardWord q_now_heardAnswer : Nat) (m_imagesKept : Int32) (m_bads : Int32) (m_nos : Int32) (m_fulls : Int32) (m_above : Int64) (m_below : Int64) (m_now_words : Int32) (m_now_people : Int32) (m_now_said : Int32) (m_now_undos : Int32) (m_now_heard : Int32) (m_now_ending : Nat → Int32) (m_now_meaning : Nat → Int32) (m_now_cost : Nat → Int32) (x1 : Int32) (x2 : Int32)  {N : Nat} {out : Int32 × Int32 × Int32 × Int32} (h : fX10_of N m_bads m_nos m_fulls m_now_words m_now_said m_now_ending m_now_meaning m_now_cost x1 x2 = some out) : gm_Met l yX10_of wsX10_of rX10_of (dC, dI) [(cI, .int)] gm_T [.ref q, .int x1, .int x2] (wX10_of cI q q_now q_now_ending q_now_meaning q_now_cost q_draft q_images q_kinds q_text q_duel q_cover q_clashes q_tally q_sayableByPair q_chosenPairs q_now_alikeTo q_now_kind q_now_want q_now_saidAhead q_now_heardWord q_now_heardAnswer m_imagesKept m_bads m_nos m_fulls m_above m_below m_now_words m_now_people m_now_said m_now_undos m_now_heard m_now_ending m_now_meaning m_now_cost) (some (.int out.1)) (wX10_of cI q q_now q_now_ending q_now_meaning q_now_cost q_draft q_images q_kinds q_text q_duel q_cover q_clashes q_tally q_sayableByPair q_chosenPairs q_now_alikeTo q_now_kind q_now_want q_now_saidAhead q_now_heardWord q_now_heardAnswer m_imagesKept out.2.1 out.2.2.1 out.2.2.2 m_above m_below m_now_words m_now_people m_now_said m_now_undos m_now_heard m_now_ending m_now_meaning m_now_cost) := by
  refine gm_ofW (cc := cX10_of) (maxL := 3) (ret := (some .int)) (by decide +kernel) rfl (Nat.le_of_ble_eq_true rfl) ?_
  intro p e s m below meth c A C0 hH ls hl
  generalize ([.ref q, .int x1, .int x2] : List Value).toArray = args at C0 ⊢
  have hl : lv_has ls 3 [(0, .ref q), (1, .int x1), (2, .int x2)] := hl
  generalize s.heap = H at hH ⊢
  generalize ([] : List Loc) = locs at hH ⊢
  obtain ⟨hx, hb, hml, hr, hown, hts, hA, hK, hX, hlocks⟩ := id C0
  unfold fX10_of at h
  refine lv_aload_n hx hb dX10_of_0 rfl (lv_at hl 0 rfl) ?_
  refine lv_iload_n hx hb dX10_of_1 rfl (lv_at hl 1 rfl) ?_
  obtain ⟨o1, ho1, h⟩ := gm_bind_e h
  refine gm_callV (As := [.int x1]) (rest := []) (n := 1) (ci := 10) (q0 := 0) C0 hH (mX10_isWord l dC dI  q q_now q_draft q_images q_kinds q_text q_duel q_cover q_clashes q_tally q_sayableByPair q_chosenPairs q_now_ending q_now_meaning q_now_cost q_now_alikeTo q_now_kind q_now_want q_now_saidAhead q_now_heardWord q_now_heardAnswer m_imagesKept m_bads m_nos m_fulls m_above m_below m_now_words m_now_people m_now_said m_now_undos m_now_heard x1   ho1) gX10_of_X10_isWord rfl (by decide +kernel) ⟨rfl, rfl, Nat.le_of_ble_eq_true rfl, Nat.le_of_ble_eq_true rfl⟩ gm_T_ok (fun _ => trivial) [0, 1] rfl rfl rfl [] rfl rfl rfl rfl hl.1 rfl (Nat.le_of_ble_eq_true rfl) dX10_of_2 ⟨Nat.zero_le _, Nat.zero_le _⟩ (fun H locs hH => ?_)
  have hH : gm_H (dC, dI) A s (wX10_of cI q q_now q_now_ending q_now_meaning q_now_cost q_draft q_images q_kinds q_text q_duel q_cover q_clashes q_tally q_sayableByPair q_chosenPairs q_now_alikeTo q_now_kind q_now_want q_now_saidAhead q_now_heardWord q_now_heardAnswer m_imagesKept m_bads m_nos m_fulls m_above m_below m_now_words m_now_people m_now_said m_now_undos m_now_heard m_now_ending m_now_meaning m_now_cost) H locs := hH
  refine lv_if_eq (tgt := 16) hx hb dX10_of_5 (by decide) (fun hc2 => ?_) (fun hc2 => ?_)
  · replace h := gm_pos hc2 h
    exact tX10_of_b16 C0  h hH (lv_sub hl [0] rfl)
  · replace h := gm_neg hc2 h
    refine lv_iload_n hx hb dX10_of_8 rfl (lv_at hl 2 rfl) ?_
    refine lv_iconst (v := 4) hx hb dX10_of_9 (by decide) ?_
    obtain ⟨o4, ho4, h⟩ := gm_bind_e h
    refine gm_callS (As := [.int x2, .int 4]) (rest := []) (n := 2) C0 hH (mX10_fits l dC dI    x2 4   ho4) gX10_of_X10_fits rfl (by decide +kernel) ⟨rfl, rfl, Nat.le_of_ble_eq_true rfl, Nat.le_of_ble_eq_true rfl⟩ gm_T_ok (fun _ => trivial) [] rfl rfl rfl [] rfl rfl hl.1 rfl (Nat.le_of_ble_eq_true rfl) dX10_of_10 ⟨Nat.zero_le _, Nat.zero_le _⟩ (fun H locs hH => ?_)
    have hH : gm_H (dC, dI) A s (wX10_of cI q q_now q_now_ending q_now_meaning q_now_cost q_draft q_images q_kinds q_text q_duel q_cover q_clashes q_tally q_sayableByPair q_chosenPairs q_now_alikeTo q_now_kind q_now_want q_now_saidAhead q_now_heardWord q_now_heardAnswer m_imagesKept m_bads m_nos m_fulls m_above m_below m_now_words m_now_people m_now_said m_now_undos m_now_heard m_now_ending m_now_meaning m_now_cost) H locs := hH
    refine lv_if_ne (tgt := 23) hx hb dX10_of_13 (by decide) (fun hc5 => ?_) (fun hc5 => ?_)
    · replace h := gm_neg hc5 h
      refine lv_iload_n hx hb dX10_of_23 rfl (lv_at hl 2 rfl) ?_
      by_cases hs6_0 : x2 = 0
      · replace h := gm_pos hs6_0 h
        refine lv_tableIn (tgt := 52) (off := 28) hx hb dX10_of_24 (by rw [hs6_0]; decide) (by rw [hs6_0]; decide) (by rw [hs6_0]; decide) (by decide) ?_
        refine lv_aload_n hx hb dX10_of_52 rfl (lv_at hl 0 rfl) ?_
        refine gm_get (ci := 10) C0 hH inX10_of_X10 0 0 1 rfl rfl (by decide) rfl rfl dX10_of_53 ?_
        refine gm_get (ci := 9) C0 hH inX10_of_X9 1 0 2 rfl rfl (by decide) rfl rfl dX10_of_56 ?_
        refine lv_iload_n hx hb dX10_of_59 rfl (lv_at hl 1 rfl) ?_
        obtain ⟨hi7, h⟩ := gm_chk_e h
        refine gm_iald C0 hH hi7 2 0 rfl rfl dX10_of_60 ?_
        obtain rfl := Option.some.inj h
        exact gm_iret C0 hH dX10_of_61
      · replace h := gm_neg hs6_0 h
        by_cases hs6_1 : x2 = 1
        · replace h := gm_pos hs6_1 h
          refine lv_tableIn (tgt := 62) (off := 38) hx hb dX10_of_24 (by rw [hs6_1]; decide) (by rw [hs6_1]; decide) (by rw [hs6_1]; decide) (by decide) ?_
          refine lv_aload_n hx hb dX10_of_62 rfl (lv_at hl 0 rfl) ?_
          refine gm_get (ci := 10) C0 hH inX10_of_X10 0 0 1 rfl rfl (by decide) rfl rfl dX10_of_63 ?_
          refine gm_get (ci := 9) C0 hH inX10_of_X9 1 1 3 rfl rfl (by decide) rfl rfl dX10_of_66 ?_
          refine lv_iload_n hx hb dX10_of_69 rfl (lv_at hl 1 rfl) ?_
          obtain ⟨hi8, h⟩ := gm_chk_e h
          refine gm_iald C0 hH hi8 3 0 rfl rfl dX10_of_70 ?_
          obtain rfl := Option.some.inj h
          exact gm_iret C0 hH dX10_of_71
        · replace h := gm_neg hs6_1 h
          by_cases hs6_2 : x2 = 2
          · replace h := gm_pos hs6_2 h
            refine lv_tableIn (tgt := 72) (off := 48) hx hb dX10_of_24 (by rw [hs6_2]; decide) (by rw [hs6_2]; decide) (by rw [hs6_2]; decide) (by decide) ?_
            refine lv_aload_n hx hb dX10_of_72 rfl (lv_at hl 0 rfl) ?_
            refine gm_get (ci := 10) C0 hH inX10_of_X10 0 0 1 rfl rfl (by decide) rfl rfl dX10_of_73 ?_
            refine gm_get (ci := 9) C0 hH inX10_of_X9 1 2 4 rfl rfl (by decide) rfl rfl dX10_of_76 ?_
            refine lv_iload_n hx hb dX10_of_79 rfl (lv_at hl 1 rfl) ?_
            obtain ⟨hi9, h⟩ := gm_chk_e h
            refine gm_iald C0 hH hi9 4 0 rfl rfl dX10_of_80 ?_
            obtain rfl := Option.some.inj h
            exact gm_iret C0 hH dX10_of_81
          · replace h := gm_neg hs6_2 h
            refine lv_tableOut (tgt := 82) hx hb dX10_of_24 (by have hj0 := lv_neT hs6_0 (a := 0) rfl; have hj1 := lv_neT hs6_1 (a := 1) rfl; have hj2 := lv_neT hs6_2 (a := 2) rfl; omega) (by decide) ?_
            refine lv_aload_n hx hb dX10_of_82 rfl (lv_at hl 0 rfl) ?_
            refine gm_get (ci := 10) C0 hH inX10_of_X10 0 0 1 rfl rfl (by decide) rfl rfl dX10_of_83 ?_
            refine gm_get (ci := 9) C0 hH inX10_of_X9 1 8 5 rfl rfl (by decide) rfl rfl dX10_of_86 ?_
            refine lv_iload_n hx hb dX10_of_89 rfl (lv_at hl 1 rfl) ?_
            refine lv_ishr hx hb dX10_of_90 ?_
            refine lv_iconst (v := 1) hx hb dX10_of_91 (by decide) ?_
            refine lv_iand hx hb dX10_of_92 ?_
            obtain rfl := Option.some.inj h
            exact gm_iret C0 hH dX10_of_93
    · replace h := gm_pos hc5 h
      exact tX10_of_b16 C0  h hH (lv_sub hl [0] rfl)

/-! X10_about -/
abbrev wX10_about (cI : ClassId) (q q_now q_now_kind q_now_want q_draft q_images q_kinds q_text q_duel q_cover q_clashes q_tally q_sayableByPair q_chosenPairs q_now_ending q_now_meaning q_now_cost q_now_alikeTo q_now_saidAhead q_now_heardWord q_now_heardAnswer : Nat) (m_imagesKept : Int32) (m_bads : Int32) (m_nos : Int32) (m_fulls : Int32) (m_above : Int64) (m_below : Int64) (m_now_words : Int32) (m_now_people : Int32) (m_now_said : Int32) (m_now_undos : Int32) (m_now_heard : Int32) (m_now_kind : Nat → Int32) (m_now_want : Nat → Int32) : va_W := [(q, .inr (10, [.ref q_now, .ref q_draft, .ref q_images, .int m_imagesKept, .ref q_kinds, .ref q_text, .ref q_duel, .ref q_cover, .int m_bads, .int m_nos, .int m_fulls, .long m_above, .long m_below, .ref q_clashes, .ref q_tally, .ref q_sayableByPair, .ref q_chosenPairs])), (q_now, .inr (9, [.ref q_now_ending, .ref q_now_meaning, .ref q_now_cost, .int m_now_words, .ref q_now_alikeTo, .ref q_now_kind, .ref q_now_want, .int m_now_people, .int m_now_said, .ref q_now_saidAhead, .int m_now_undos, .ref q_now_heardWord, .ref q_now_heardAnswer, .int m_now_heard])), (q_now_kind, .inl (cI, 5, .inl m_now_kind)), (q_now_want, .inl (cI, 5, .inl m_now_want))]
abbrev rX10_about : Room := { frames := 2, cells := 0, slots := 0, locals := 42 }
def fX10_about_b16 (N : Nat)  (m_bads : Int32) (m_nos : Int32) (m_fulls : Int32) : Option (Int32 × Int32 × Int32 × Int32) := gm_bind (fX10_refuse N m_bads m_nos m_fulls ((-2))) (fun o3 => some (o3.1, o3.2.1, o3.2.2.1, o3.2.2.2))
def fX10_about (N : Nat) (m_bads : Int32) (m_nos : Int32) (m_fulls : Int32) (m_now_people : Int32) (m_now_kind : Nat → Int32) (m_now_want : Nat → Int32) (x1 : Int32) (x2 : Int32) : Option (Int32 × Int32 × Int32 × Int32) := gm_bind (fX10_isPerson N m_now_people x1) (fun o1 => (if o1 = 0 then (fX10_about_b16 N  m_bads m_nos m_fulls) else gm_bind (fX10_fits N x2 2) (fun o4 => (if o4 = 0 then (fX10_about_b16 N  m_bads m_nos m_fulls) else (if x2 = 0 then gm_chk x1 5 (some ((m_now_kind (Int32.toNatClampNeg x1)), m_bads, m_nos, m_fulls)) else gm_chk x1 5 (some ((m_now_want (Int32.toNatClampNeg x1)), m_bads, m_nos, m_fulls)))))))
set_option maxRecDepth 20000 in
theorem inX10_about_X10 : ∀ w ∈ u_ws RX10 TX10 17, w ∈ wsX10_about := fun w h => by
  obtain ⟨k, hk, rfl⟩ := List.mem_map.mp h
  have hk2 := List.mem_range.mp hk
  exact List.mem_of_getElem? (i := 20 + k) (by rcases (show k = 0 ∨ k = 1 ∨ k = 2 ∨ k = 3 ∨ k = 4 ∨ k = 5 ∨ k = 6 ∨ k = 7 ∨ k = 8 ∨ k = 9 ∨ k = 10 ∨ k = 11 ∨ k = 12 ∨ k = 13 ∨ k = 14 ∨ k = 15 ∨ k = 16 by omega) with rfl | rfl | rfl | rfl | rfl | rfl | rfl | rfl | rfl | rfl | rfl | rfl | rfl | rfl | rfl | rfl | rfl <;> rfl)
set_option maxRecDepth 20000 in
theorem inX10_about_X9 : ∀ w ∈ u_ws RX9 TX9 14, w ∈ wsX10_about := fun w h => by
  obtain ⟨k, hk, rfl⟩ := List.mem_map.mp h
  have hk2 := List.mem_range.mp hk
  exact List.mem_of_getElem? (i := 37 + k) (by rcases (show k = 0 ∨ k = 1 ∨ k = 2 ∨ k = 3 ∨ k = 4 ∨ k = 5 ∨ k = 6 ∨ k = 7 ∨ k = 8 ∨ k = 9 ∨ k = 10 ∨ k = 11 ∨ k = 12 ∨ k = 13 by omega) with rfl | rfl | rfl | rfl | rfl | rfl | rfl | rfl | rfl | rfl | rfl | rfl | rfl | rfl <;> rfl)
set_option maxRecDepth 100000 in
set_option maxHeartbeats 4000000 in
theorem tX10_about_b16 {p : Program} {l : Launch} {e : Env} {s : State} {m : MethodId} {args : Array Value} {below : List Frame} {meth : Method} {c : Code} {A : Nat → Prop} {dC : Nat → ClassId} {dI : Nat → Nat → Nat} {cI : ClassId} {q q_now q_now_kind q_now_want q_draft q_images q_kinds q_text q_duel q_cover q_clashes q_tally q_sayableByPair q_chosenPairs q_now_ending q_now_meaning q_now_cost q_now_alikeTo q_now_saidAhead q_now_heardWord q_now_heardAnswer : Nat} {m_imagesKept : Int32} {m_bads : Int32} {m_nos : Int32} {m_fulls : Int32} {m_above : Int64} {m_below : Int64} {m_now_words : Int32} {m_now_people : Int32} {m_now_said : Int32} {m_now_undos : Int32} {m_now_heard : Int32} {m_now_kind : Nat → Int32} {m_now_want : Nat → Int32} (C0 : gm_C p s m args meth c (dC, dI) [(cI, .int)] A gm_T RX10 cX10_about 3 (some .int) wsX10_about) {N : Nat} {out : Int32 × Int32 × Int32 × Int32}    {H : Heap} {locs : List Loc} {ls : Array Slot} (h : fX10_about_b16 N  m_bads m_nos m_fulls = some out) (hH : gm_H (dC, dI) A s (wX10_about cI q q_now q_now_kind q_now_want q_draft q_images q_kinds q_text q_duel q_cover q_clashes q_tally q_sayableByPair q_chosenPairs q_now_ending q_now_meaning q_now_cost q_now_alikeTo q_now_saidAhead q_now_heardWord q_now_heardAnswer m_imagesKept m_bads m_nos m_fulls m_above m_below m_now_words m_now_people m_now_said m_now_undos m_now_heard m_now_kind m_now_want) H locs) (hl : lv_has ls 3 [(0, .ref q)]) : W p l e rX10_about s m args below meth c H locs 0 0 (MQ below (gm_Q (dC, dI) [(cI, .int)] A (some (.int out.1)) (wX10_about cI q q_now q_now_kind q_now_want q_draft q_images q_kinds q_text q_duel q_cover q_clashes q_tally q_sayableByPair q_chosenPairs q_now_ending q_now_meaning q_now_cost q_now_alikeTo q_now_saidAhead q_now_heardWord q_now_heardAnswer m_imagesKept out.2.1 out.2.2.1 out.2.2.2 m_above m_below m_now_words m_now_people m_now_said m_now_undos m_now_heard m_now_kind m_now_want)) args s 0 0 A) (F0 m 16 ls []) := by
  obtain ⟨hx, hb, hml, hr, hown, hts, hA, hK, hX, hlocks⟩ := id C0
  unfold fX10_about_b16 at h
  refine lv_aload_n hx hb dX10_about_16 rfl (lv_at hl 0 rfl) ?_
  refine lv_bipush (v := (-2)) hx hb dX10_about_17 (by decide) ?_
  obtain ⟨o3, ho3, h⟩ := gm_bind_e h
  refine gm_callV (As := [.int (-2)]) (rest := []) (n := 1) (ci := 10) (q0 := 0) C0 hH (mX10_refuse l dC dI  q q_now q_draft q_images q_kinds q_text q_duel q_cover q_clashes q_tally q_sayableByPair q_chosenPairs m_imagesKept m_bads m_nos m_fulls m_above m_below ((-2))   ho3) gX10_about_X10_refuse rfl (by decide +kernel) ⟨rfl, rfl, Nat.le_of_ble_eq_true rfl, Nat.le_of_ble_eq_true rfl⟩ gm_T_ok (fun _ => trivial) [0] rfl rfl rfl [] rfl rfl rfl rfl hl.1 rfl (Nat.le_of_ble_eq_true rfl) dX10_about_19 ⟨Nat.zero_le _, Nat.zero_le _⟩ (fun H locs hH => ?_)
  have hH : gm_H (dC, dI) A s (wX10_about cI q q_now q_now_kind q_now_want q_draft q_images q_kinds q_text q_duel q_cover q_clashes q_tally q_sayableByPair q_chosenPairs q_now_ending q_now_meaning q_now_cost q_now_alikeTo q_now_saidAhead q_now_heardWord q_now_heardAnswer m_imagesKept o3.2.1 o3.2.2.1 o3.2.2.2 m_above m_below m_now_words m_now_people m_now_said m_now_undos m_now_heard m_now_kind m_now_want) H locs := hH
  obtain rfl := Option.some.inj h
  exact gm_iret C0 hH dX10_about_22
set_option maxRecDepth 100000 in
set_option maxHeartbeats 4000000 in
theorem mX10_about (l : Launch) (dC : Nat → ClassId) (dI : Nat → Nat → Nat) (cI : ClassId) (q q_now q_now_kind q_now_want q_draft q_images q_kinds q_text q_duel q_cover q_clashes q_tally q_sayableByPair q_chosenPairs q_now_ending q_now_meaning q_now_cost q_now_alikeTo q_now_saidAhead q_now_heardWord q_now_heardAnswer : Nat) (m_imagesKept : Int32) (m_bads : Int32) (m_nos : Int32) (m_fulls : Int32) (m_above : Int64) (m_below : Int64) (m_now_words : Int32) (m_now_people : Int32) (m_now_said : Int32) (m_now_undos : Int32) (m_now_heard : Int32) (m_now_kind : Nat → Int32) (m_now_want : Nat → Int32) (x1 : Int32) (x2 : Int32)  {N : Nat} {out : Int32 × Int32 × Int32 × Int32} (h : fX10_about N m_bads m_nos m_fulls m_now_people m_now_kind m_now_want x1 x2 = some out) : gm_Met l yX10_about wsX10_about rX10_about (dC, dI) [(cI, .int)] gm_T [.ref q, .int x1, .int x2] (wX10_about cI q q_now q_now_kind q_now_want q_draft q_images q_kinds q_text q_duel q_cover q_clashes q_tally q_sayableByPair q_chosenPairs q_now_ending q_now_meaning q_now_cost q_now_alikeTo q_now_saidAhead q_now_heardWord q_now_heardAnswer m_imagesKept m_bads m_nos m_fulls m_above m_below m_now_words m_now_people m_now_said m_now_undos m_now_heard m_now_kind m_now_want) (some (.int out.1)) (wX10_about cI q q_now q_now_kind q_now_want q_draft q_images q_kinds q_text q_duel q_cover q_clashes q_tally q_sayableByPair q_chosenPairs q_now_ending q_now_meaning q_now_cost q_now_alikeTo q_now_saidAhead q_now_heardWord q_now_heardAnswer m_imagesKept out.2.1 out.2.2.1 out.2.2.2 m_above m_below m_now_words m_now_people m_now_said m_now_undos m_now_heard m_now_kind m_now_want) := by
  refine gm_ofW (cc := cX10_about) (maxL := 3) (ret := (some .int)) (by decide +kernel) rfl (Nat.le_of_ble_eq_true rfl) ?_
  intro p e s m below meth c A C0 hH ls hl
  generalize ([.ref q, .int x1, .int x2] : List Value).toArray = args at C0 ⊢
  have hl : lv_has ls 3 [(0, .ref q), (1, .int x1), (2, .int x2)] := hl
  generalize s.heap = H at hH ⊢
  generalize ([] : List Loc) = locs at hH ⊢
  obtain ⟨hx, hb, hml, hr, hown, hts, hA, hK, hX, hlocks⟩ := id C0
  unfold fX10_about at h
  refine lv_aload_n hx hb dX10_about_0 rfl (lv_at hl 0 rfl) ?_
  refine lv_iload_n hx hb dX10_about_1 rfl (lv_at hl 1 rfl) ?_
  obtain ⟨o1, ho1, h⟩ := gm_bind_e h
  refine gm_callV (As := [.int x1]) (rest := []) (n := 1) (ci := 10) (q0 := 0) C0 hH (mX10_isPerson l dC dI  q q_now q_draft q_images q_kinds q_text q_duel q_cover q_clashes q_tally q_sayableByPair q_chosenPairs q_now_ending q_now_meaning q_now_cost q_now_alikeTo q_now_kind q_now_want q_now_saidAhead q_now_heardWord q_now_heardAnswer m_imagesKept m_bads m_nos m_fulls m_above m_below m_now_words m_now_people m_now_said m_now_undos m_now_heard x1   ho1) gX10_about_X10_isPerson rfl (by decide +kernel) ⟨rfl, rfl, Nat.le_of_ble_eq_true rfl, Nat.le_of_ble_eq_true rfl⟩ gm_T_ok (fun _ => trivial) [0, 1] rfl rfl rfl [] rfl rfl rfl rfl hl.1 rfl (Nat.le_of_ble_eq_true rfl) dX10_about_2 ⟨Nat.zero_le _, Nat.zero_le _⟩ (fun H locs hH => ?_)
  have hH : gm_H (dC, dI) A s (wX10_about cI q q_now q_now_kind q_now_want q_draft q_images q_kinds q_text q_duel q_cover q_clashes q_tally q_sayableByPair q_chosenPairs q_now_ending q_now_meaning q_now_cost q_now_alikeTo q_now_saidAhead q_now_heardWord q_now_heardAnswer m_imagesKept m_bads m_nos m_fulls m_above m_below m_now_words m_now_people m_now_said m_now_undos m_now_heard m_now_kind m_now_want) H locs := hH
  refine lv_if_eq (tgt := 16) hx hb dX10_about_5 (by decide) (fun hc2 => ?_) (fun hc2 => ?_)
  · replace h := gm_pos hc2 h
    exact tX10_about_b16 C0  h hH (lv_sub hl [0] rfl)
  · replace h := gm_neg hc2 h
    refine lv_iload_n hx hb dX10_about_8 rfl (lv_at hl 2 rfl) ?_
    refine lv_iconst (v := 2) hx hb dX10_about_9 (by decide) ?_
    obtain ⟨o4, ho4, h⟩ := gm_bind_e h
    refine gm_callS (As := [.int x2, .int 2]) (rest := []) (n := 2) C0 hH (mX10_fits l dC dI    x2 2   ho4) gX10_about_X10_fits rfl (by decide +kernel) ⟨rfl, rfl, Nat.le_of_ble_eq_true rfl, Nat.le_of_ble_eq_true rfl⟩ gm_T_ok (fun _ => trivial) [] rfl rfl rfl [] rfl rfl hl.1 rfl (Nat.le_of_ble_eq_true rfl) dX10_about_10 ⟨Nat.zero_le _, Nat.zero_le _⟩ (fun H locs hH => ?_)
    have hH : gm_H (dC, dI) A s (wX10_about cI q q_now q_now_kind q_now_want q_draft q_images q_kinds q_text q_duel q_cover q_clashes q_tally q_sayableByPair q_chosenPairs q_now_ending q_now_meaning q_now_cost q_now_alikeTo q_now_saidAhead q_now_heardWord q_now_heardAnswer m_imagesKept m_bads m_nos m_fulls m_above m_below m_now_words m_now_people m_now_said m_now_undos m_now_heard m_now_kind m_now_want) H locs := hH
    refine lv_if_ne (tgt := 23) hx hb dX10_about_13 (by decide) (fun hc5 => ?_) (fun hc5 => ?_)
    · replace h := gm_neg hc5 h
      refine lv_iload_n hx hb dX10_about_23 rfl (lv_at hl 2 rfl) ?_
      refine lv_if_ne (tgt := 39) hx hb dX10_about_24 (by decide) (fun hc6 => ?_) (fun hc6 => ?_)
      · replace h := gm_neg hc6 h
        refine lv_aload_n hx hb dX10_about_39 rfl (lv_at hl 0 rfl) ?_
        refine gm_get (ci := 10) C0 hH inX10_about_X10 0 0 1 rfl rfl (by decide) rfl rfl dX10_about_40 ?_
        refine gm_get (ci := 9) C0 hH inX10_about_X9 1 6 3 rfl rfl (by decide) rfl rfl dX10_about_43 ?_
        refine lv_iload_n hx hb dX10_about_46 rfl (lv_at hl 1 rfl) ?_
        obtain ⟨hi7, h⟩ := gm_chk_e h
        refine gm_iald C0 hH hi7 3 0 rfl rfl dX10_about_47 ?_
        obtain rfl := Option.some.inj h
        exact gm_iret C0 hH dX10_about_48
      · replace h := gm_pos hc6 h
        refine lv_aload_n hx hb dX10_about_27 rfl (lv_at hl 0 rfl) ?_
        refine gm_get (ci := 10) C0 hH inX10_about_X10 0 0 1 rfl rfl (by decide) rfl rfl dX10_about_28 ?_
        refine gm_get (ci := 9) C0 hH inX10_about_X9 1 5 2 rfl rfl (by decide) rfl rfl dX10_about_31 ?_
        refine lv_iload_n hx hb dX10_about_34 rfl (lv_at hl 1 rfl) ?_
        obtain ⟨hi8, h⟩ := gm_chk_e h
        refine gm_iald C0 hH hi8 2 0 rfl rfl dX10_about_35 ?_
        refine lv_goto (tgt := 48) hx hb dX10_about_36 (by decide) ?_
        obtain rfl := Option.some.inj h
        exact gm_iret C0 hH dX10_about_48
    · replace h := gm_pos hc5 h
      exact tX10_about_b16 C0  h hH (lv_sub hl [0] rfl)
