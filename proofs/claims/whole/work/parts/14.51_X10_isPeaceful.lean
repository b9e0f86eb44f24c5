/-! X10_isPeaceful -/
abbrev wX10_isPeaceful (cI : ClassId) (q q_now q_clashes q_draft q_images q_kinds q_text q_duel q_cover q_tally q_sayableByPair q_chosenPairs q_now_ending q_now_meaning q_now_cost q_now_alikeTo q_now_kind q_now_want q_now_saidAhead q_now_heardWord q_now_heardAnswer : Nat) (m_imagesKept : Int32) (m_bads : Int32) (m_nos : Int32) (m_fulls : Int32) (m_above : Int64) (m_below : Int64) (m_now_words : Int32) (m_now_people : Int32) (m_now_said : Int32) (m_now_undos : Int32) (m_now_heard : Int32) (m_clashes : Nat → Int32) : va_W := [(q, .inr (10, [.ref q_now, .ref q_draft, .ref q_images, .int m_imagesKept, .ref q_kinds, .ref q_text, .ref q_duel, .ref q_cover, .int m_bads, .int m_nos, .int m_fulls, .long m_above, .long m_below, .ref q_clashes, .ref q_tally, .ref q_sayableByPair, .ref q_chosenPairs])), (q_now, .inr (9, [.ref q_now_ending, .ref q_now_meaning, .ref q_now_cost, .int m_now_words, .ref q_now_alikeTo, .ref q_now_kind, .ref q_now_want, .int m_now_people, .int m_now_said, .ref q_now_saidAhead, .int m_now_undos, .ref q_now_heardWord, .ref q_now_heardAnswer, .int m_now_heard])), (q_clashes, .inl (cI, 10, .inl m_clashes))]
abbrev rX10_isPeaceful : Room := { frames := 0, cells := 0, slots := 0, locals := 0 }
def fX10_isPeaceful_b35 (N : Nat) (r2 : Int32 → Option (Int32)) (m_now_words : Int32) (m_clashes : Nat → Int32) (x1 : Int32) (x2 : Int32) : Option (Int32) := (r2 ((x2 + 1)))
def fX10_isPeaceful_b2_body (N : Nat)  (m_now_words : Int32) (m_clashes : Nat → Int32) (x1 : Int32) (r2 : Int32 → Option (Int32)) (x2 : Int32) : Option (Int32) := (if m_now_words ≤ x2 then some (1) else (if ((x1 >>> (x2 &&& 31)) &&& 1) = 1 then gm_chk x2 10 ((if ((m_clashes (Int32.toNatClampNeg x2)) &&& x1) = 0 then (fX10_isPeaceful_b35 N r2 m_now_words m_clashes x1 x2) else some (0))) else (fX10_isPeaceful_b35 N r2 m_now_words m_clashes x1 x2)))
def fX10_isPeaceful_b2 (N : Nat)  (m_now_words : Int32) (m_clashes : Nat → Int32) (x1 : Int32) (x2 : Int32) : Option (Int32) := gm_fix (fX10_isPeaceful_b2_body N  m_now_words m_clashes x1) (fun _ => none) N x2
def fX10_isPeaceful (N : Nat) (m_now_words : Int32) (m_clashes : Nat → Int32) (x1 : Int32) : Option (Int32) := (fX10_isPeaceful_b2 N  m_now_words m_clashes x1 0)
set_option maxRecDepth 20000 in
theorem inX10_isPeaceful_X10 : ∀ w ∈ u_ws RX10 TX10 17, w ∈ wsX10_isPeaceful := fun w h => by
  obtain ⟨k, hk, rfl⟩ := List.mem_map.mp h
  have hk2 := List.mem_range.mp hk
  exact List.mem_of_getElem? (i := 4 + k) (by rcases (show k = 0 ∨ k = 1 ∨ k = 2 ∨ k = 3 ∨ k = 4 ∨ k = 5 ∨ k = 6 ∨ k = 7 ∨ k = 8 ∨ k = 9 ∨ k = 10 ∨ k = 11 ∨ k = 12 ∨ k = 13 ∨ k = 14 ∨ k = 15 ∨ k = 16 by omega) with rfl | rfl | rfl | rfl | rfl | rfl | rfl | rfl | rfl | rfl | rfl | rfl | rfl | rfl | rfl | rfl | rfl <;> rfl)
set_option maxRecDepth 20000 in
theorem inX10_isPeaceful_X9 : ∀ w ∈ u_ws RX9 TX9 14, w ∈ wsX10_isPeaceful := fun w h => by
  obtain ⟨k, hk, rfl⟩ := List.mem_map.mp h
  have hk2 := List.mem_range.mp hk
  exact List.mem_of_getElem? (i := 21 + k) (by rcases (show k = 0 ∨ k = 1 ∨ k = 2 ∨ k = 3 ∨ k = 4 ∨ k = 5 ∨ k = 6 ∨ k = 7 ∨ k = 8 ∨ k = 9 ∨ k = 10 ∨ k = 11 ∨ k = 12 ∨ k = 13 by omega) with rfl | rfl | rfl | rfl | rfl | rfl | rfl | rfl | rfl | rfl | rfl | rfl | rfl | rfl <;> rfl)
set_option maxRecDepth 100000 in
set_option maxHeartbeats 4000000 in
theorem tX10_isPeaceful_b35 {p : Program} {l : Launch} {e : Env} {s : State} {m : MethodId} {args : Array Value} {below : List Frame} {meth : Method} {c : Code} {A : Nat → Prop} {dC : Nat → ClassId} {dI : Nat → Nat → Nat} {cI : ClassId} {q q_now q_clashes q_draft q_images q_kinds q_text q_duel q_cover q_tally q_sayableByPair q_chosenPairs q_now_ending q_now_meaning q_now_cost q_now_alikeTo q_now_kind q_now_want q_now_saidAhead q_now_heardWord q_now_heardAnswer : Nat} {m_imagesKept : Int32} {m_bads : Int32} {m_nos : Int32} {m_fulls : Int32} {m_above : Int64} {m_below : Int64} {m_now_words : Int32} {m_now_people : Int32} {m_now_said : Int32} {m_now_undos : Int32} {m_now_heard : Int32} {m_clashes : Nat → Int32} {x1 : Int32} {x2 : Int32} (C0 : gm_C p s m args meth c (dC, dI) [(cI, .int)] A gm_T RX10 cX10_isPeaceful 3 (some .boolean) wsX10_isPeaceful) {N : Nat} {out : Int32} {r2 : Int32 → Option (Int32)} (hr2 : ∀ (x2 : Int32) (H : Heap) (locs : List Loc) (ls : Array Slot), r2 x2 = some out → gm_H (dC, dI) A s (wX10_isPeaceful cI q q_now q_clashes q_draft q_images q_kinds q_text q_duel q_cover q_tally q_sayableByPair q_chosenPairs q_now_ending q_now_meaning q_now_cost q_now_alikeTo q_now_kind q_now_want q_now_saidAhead q_now_heardWord q_now_heardAnswer m_imagesKept m_bads m_nos m_fulls m_above m_below m_now_words m_now_people m_now_said m_now_undos m_now_heard m_clashes) H locs → lv_has ls 3 [(0, .ref q), (1, .int x1), (2, .int x2)] → W p l e rX10_isPeaceful s m args below meth c H locs 0 0 (MQ below (gm_Q (dC, dI) [(cI, .int)] A (some (.int out)) (wX10_isPeaceful cI q q_now q_clashes q_draft q_images q_kinds q_text q_duel q_cover q_tally q_sayableByPair q_chosenPairs q_now_ending q_now_meaning q_now_cost q_now_alikeTo q_now_kind q_now_want q_now_saidAhead q_now_heardWord q_now_heardAnswer m_imagesKept m_bads m_nos m_fulls m_above m_below m_now_words m_now_people m_now_said m_now_undos m_now_heard m_clashes)) args s 0 0 A) (F0 m 2 ls []))   {H : Heap} {locs : List Loc} {ls : Array Slot} (h : fX10_isPeaceful_b35 N r2 m_now_words m_clashes x1 x2 = some out) (hH : gm_H (dC, dI) A s (wX10_isPeaceful cI q q_now q_clashes q_draft q_images q_kinds q_text q_duel q_cover q_tally q_sayableByPair q_chosenPairs q_now_ending q_now_meaning q_now_cost q_now_alikeTo q_now_kind q_now_want q_now_saidAhead q_now_heardWord q_now_heardAnswer m_imagesKept m_bads m_nos m_fulls m_above m_below m_now_words m_now_people m_now_said m_now_undos m_now_heard m_clashes) H locs) (hl : lv_has ls 3 [(0, .ref q), (1, .int x1), (2, .int x2)]) : W p l e rX10_isPeaceful s m args below meth c H locs 0 0 (MQ below (gm_Q (dC, dI) [(cI, .int)] A (some (.int out)) (wX10_isPeaceful cI q q_now q_clashes q_draft q_images q_kinds q_text q_duel q_cover q_tally q_sayableByPair q_chosenPairs q_now_ending q_now_meaning q_now_cost q_now_alikeTo q_now_kind q_now_want q_now_saidAhead q_now_heardWord q_now_heardAnswer m_imagesKept m_bads m_nos m_fulls m_above m_below m_now_words m_now_people m_now_said m_now_undos m_now_heard m_clashes)) args s 0 0 A) (F0 m 35 ls []) := by
  obtain ⟨hx, hb, hml, hr, hown, hts, hA, hK, hX, hlocks⟩ := id C0
  unfold fX10_isPeaceful_b35 at h
  refine lv_iinc (v := (x2 + 1)) (lv' := [(2, .int (x2 + 1)), (0, .ref q), (1, .int x1)]) hx hb dX10_isPeaceful_35 hl (k := 2) rfl rfl (by decide) rfl (fun ls hl => ?_)
  refine lv_goto (tgt := 2) hx hb dX10_isPeaceful_38 (by decide) ?_
  exact hr2 _ _ _ _ h hH (lv_sub hl [1, 2, 0] rfl)
set_option maxRecDepth 100000 in
set_option maxHeartbeats 4000000 in
theorem tX10_isPeaceful_b2 {p : Program} {l : Launch} {e : Env} {s : State} {m : MethodId} {args : Array Value} {below : List Frame} {meth : Method} {c : Code} {A : Nat → Prop} {dC : Nat → ClassId} {dI : Nat → Nat → Nat} {cI : ClassId} {q q_now q_clashes q_draft q_images q_kinds q_text q_duel q_cover q_tally q_sayableByPair q_chosenPairs q_now_ending q_now_meaning q_now_cost q_now_alikeTo q_now_kind q_now_want q_now_saidAhead q_now_heardWord q_now_heardAnswer : Nat} {m_imagesKept : Int32} {m_bads : Int32} {m_nos : Int32} {m_fulls : Int32} {m_above : Int64} {m_below : Int64} {m_now_words : Int32} {m_now_people : Int32} {m_now_said : Int32} {m_now_undos : Int32} {m_now_heard : Int32} {m_clashes : Nat → Int32} {x1 : Int32} (C0 : gm_C p s m args meth c (dC, dI) [(cI, .int)] A gm_T RX10 cX10_isPeaceful 3 (some .boolean) wsX10_isPeaceful) {N : Nat} {out : Int32}   : ∀ (n : Nat), ∀ (x2 : Int32) (H : Heap) (locs : List Loc) (ls : Array Slot), (gm_fix (fX10_isPeaceful_b2_body N  m_now_words m_clashes x1) (fun _ => none) n) x2 = some out → gm_H (dC, dI) A s (wX10_isPeaceful cI q q_now q_clashes q_draft q_images q_kinds q_text q_duel q_cover q_tally q_sayableByPair q_chosenPairs q_now_ending q_now_meaning q_now_cost q_now_alikeTo q_now_kind q_now_want q_now_saidAhead q_now_heardWord q_now_heardAnswer m_imagesKept m_bads m_nos m_fulls m_above m_below m_now_words m_now_people m_now_said m_now_undos m_now_heard m_clashes) H locs → lv_has ls 3 [(0, .ref q), (1, .int x1), (2, .int x2)] → W p l e rX10_isPeaceful s m args below meth c H locs 0 0 (MQ below (gm_Q (dC, dI) [(cI, .int)] A (some (.int out)) (wX10_isPeaceful cI q q_now q_clashes q_draft q_images q_kinds q_text q_duel q_cover q_tally q_sayableByPair q_chosenPairs q_now_ending q_now_meaning q_now_cost q_now_alikeTo q_now_kind q_now_want q_now_saidAhead q_now_heardWord q_now_heardAnswer m_imagesKept m_bads m_nos m_fulls m_above m_below m_now_words m_now_people m_now_said m_now_undos m_now_heard m_clashes)) args s 0 0 A) (F0 m 2 ls []) := by
  obtain ⟨hx, hb, hml, hr, hown, hts, hA, hK, hX, hlocks⟩ := id C0
  intro n
  induction n with
  | zero =>
    intro x2 H locs ls h hH hl
    cases h
  | succ n hr2 =>
    intro x2 H locs ls h hH hl
    rw [gm_fix_s] at h
    unfold fX10_isPeaceful_b2_body at h
    refine lv_iload_n hx hb dX10_isPeaceful_2 rfl (lv_at hl 2 rfl) ?_
    refine lv_aload_n hx hb dX10_isPeaceful_3 rfl (lv_at hl 0 rfl) ?_
    refine gm_get (ci := 10) C0 hH inX10_isPeaceful_X10 0 0 1 rfl rfl (by decide) rfl rfl dX10_isPeaceful_4 ?_
    refine gm_get (ci := 9) C0 hH inX10_isPeaceful_X9 1 3 2 rfl rfl (by decide) rfl rfl dX10_isPeaceful_7 ?_
    refine lv_icmp_ge (tgt := 41) hx hb dX10_isPeaceful_10 (by decide) (fun hc1 => ?_) (fun hc1 => ?_)
    · replace h := gm_pos hc1 h
      refine lv_iconst (v := 1) hx hb dX10_isPeaceful_41 (by decide) ?_
      obtain rfl := Option.some.inj h
      exact gm_zret C0 hH (show narrow .boolean (.int 1) = .int 1 by decide) dX10_isPeaceful_42
    · replace h := gm_neg hc1 h
      refine lv_iload_n hx hb dX10_isPeaceful_13 rfl (lv_at hl 1 rfl) ?_
      refine lv_iload_n hx hb dX10_isPeaceful_14 rfl (lv_at hl 2 rfl) ?_
      refine lv_ishr hx hb dX10_isPeaceful_15 ?_
      refine lv_iconst (v := 1) hx hb dX10_isPeaceful_16 (by decide) ?_
      refine lv_iand hx hb dX10_isPeaceful_17 ?_
      refine lv_iconst (v := 1) hx hb dX10_isPeaceful_18 (by decide) ?_
      refine lv_icmp_ne (tgt := 35) hx hb dX10_isPeaceful_19 (by decide) (fun hc2 => ?_) (fun hc2 => ?_)
      · replace h := gm_neg hc2 h
        exact tX10_isPeaceful_b35 C0 hr2 h hH (lv_sub hl [0, 1, 2] rfl)
      · replace h := gm_pos hc2 h
        refine lv_aload_n hx hb dX10_isPeaceful_22 rfl (lv_at hl 0 rfl) ?_
        refine gm_get (ci := 10) C0 hH inX10_isPeaceful_X10 0 13 3 rfl rfl (by decide) rfl rfl dX10_isPeaceful_23 ?_
        refine lv_iload_n hx hb dX10_isPeaceful_26 rfl (lv_at hl 2 rfl) ?_
        obtain ⟨hi3, h⟩ := gm_chk_e h
        refine gm_iald C0 hH hi3 2 0 rfl rfl dX10_isPeaceful_27 ?_
        refine lv_iload_n hx hb dX10_isPeaceful_28 rfl (lv_at hl 1 rfl) ?_
        refine lv_iand hx hb dX10_isPeaceful_29 ?_
        refine lv_if_eq (tgt := 35) hx hb dX10_isPeaceful_30 (by decide) (fun hc4 => ?_) (fun hc4 => ?_)
        · replace h := gm_pos hc4 h
          exact tX10_isPeaceful_b35 C0 hr2 h hH (lv_sub hl [0, 1, 2] rfl)
        · replace h := gm_neg hc4 h
          refine lv_iconst (v := 0) hx hb dX10_isPeaceful_33 (by decide) ?_
          obtain rfl := Option.some.inj h
          exact gm_zret C0 hH (show narrow .boolean (.int 0) = .int 0 by decide) dX10_isPeaceful_34
set_option maxRecDepth 100000 in
set_option maxHeartbeats 4000000 in
theorem mX10_isPeaceful (l : Launch) (dC : Nat → ClassId) (dI : Nat → Nat → Nat) (cI : ClassId) (q q_now q_clashes q_draft q_images q_kinds q_text q_duel q_cover q_tally q_sayableByPair q_chosenPairs q_now_ending q_now_meaning q_now_cost q_now_alikeTo q_now_kind q_now_want q_now_saidAhead q_now_heardWord q_now_heardAnswer : Nat) (m_imagesKept : Int32) (m_bads : Int32) (m_nos : Int32) (m_fulls : Int32) (m_above : Int64) (m_below : Int64) (m_now_words : Int32) (m_now_people : Int32) (m_now_said : Int32) (m_now_undos : Int32) (m_now_heard : Int32) (m_clashes : Nat → Int32) (x1 : Int32)  {N : Nat} {out : Int32} (h : fX10_isPeaceful N m_now_words m_clashes x1 = some out) : gm_Met l yX10_isPeaceful wsX10_isPeaceful rX10_isPeaceful (dC, dI) [(cI, .int)] gm_T [.ref q, .int x1] (wX10_isPeaceful cI q q_now q_clashes q_draft q_images q_kinds q_text q_duel q_cover q_tally q_sayableByPair q_chosenPairs q_now_ending q_now_meaning q_now_cost q_now_alikeTo q_now_kind q_now_want q_now_saidAhead q_now_heardWord q_now_heardAnswer m_imagesKept m_bads m_nos m_fulls m_above m_below m_now_words m_now_people m_now_said m_now_undos m_now_heard m_clashes) (some (.int out)) (wX10_isPeaceful cI q q_now q_clashes q_draft q_images q_kinds q_text q_duel q_cover q_tally q_sayableByPair q_chosenPairs q_now_ending q_now_meaning q_now_cost q_now_alikeTo q_now_kind q_now_want q_now_saidAhead q_now_heardWord q_now_heardAnswer m_imagesKept m_bads m_nos m_fulls m_above m_below m_now_words m_now_people m_now_said m_now_undos m_now_heard m_clashes) := by
  refine gm_ofW (cc := cX10_isPeaceful) (maxL := 3) (ret := (some .boolean)) (by decide +kernel) rfl (Nat.le_of_ble_eq_true rfl) ?_
  intro p e s m below meth c A C0 hH ls hl
  generalize ([.ref q, .int x1] : List Value).toArray = args at C0 ⊢
  have hl : lv_has ls 3 [(0, .ref q), (1, .int x1)] := hl
  generalize s.heap = H at hH ⊢
  generalize ([] : List Loc) = locs at hH ⊢
  obtain ⟨hx, hb, hml, hr, hown, hts, hA, hK, hX, hlocks⟩ := id C0
  unfold fX10_isPeaceful at h
  refine lv_iconst (v := 0) hx hb dX10_isPeaceful_0 (by decide) ?_
  refine lv_istore_n (lv' := [(2, .int 0), (0, .ref q), (1, .int x1)]) hx hb dX10_isPeaceful_1 rfl hl (by decide) rfl (fun ls hl => ?_)
  unfold fX10_isPeaceful_b2 at h
  exact tX10_isPeaceful_b2 C0  _ _ _ _ _ h hH (lv_sub hl [1, 2, 0] rfl)
