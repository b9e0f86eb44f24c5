/-! X10_of -/
abbrev wX10_of (cI : ClassId) (q q_now q_now_ending q_now_meaning q_now_cost q_draft q_images q_kinds q_text q_duel q_cover q_clashes q_tally q_sayableByPair q_chosenPairs q_now_alikeTo q_now_kind q_now_want q_now_saidAhead q_now_heardWord q_now_heardAnswer : Nat) (m_imagesKept : Int32) (m_bads : Int32) (m_nos : Int32) (m_fulls : Int32) (m_above : Int64) (m_below : Int64) (m_now_words : Int32) (m_now_people : Int32) (m_now_said : Int32) (m_now_undos : Int32) (m_now_heard : Int32) (m_now_ending : Nat → Int32) (m_now_meaning : Nat → Int32) (m_now_cost : Nat → Int32) : va_W := [(q, .inr (10, [.ref q_now, .ref q_draft, .ref q_images, .int m_imagesKept, .ref q_kinds, .ref q_text, .ref q_duel, .ref q_cover, .int m_bads, .int m_nos, .int m_fulls, .long m_above, .long m_below, .ref q_clashes, .ref q_tally, .ref q_sayableByPair, .ref q_chosenPairs])), (q_now, .inr (9, [.ref q_now_ending, .ref q_now_meaning, .ref q_now_cost, .int m_now_words, .ref q_now_alikeTo, .ref q_now_kind, .ref q_now_want, .int m_now_people, .int m_now_said, .ref q_now_saidAhead, .int m_now_undos, .ref q_now_heardWord, .ref q_now_heardAnswer, .int m_now_heard])), (q_now_ending, .inl (cI, 10, .inl m_now_ending)), (q_now_meaning, .inl (cI, 10, .inl m_now_meaning)), (q_now_cost, .inl (cI, 10, .inl m_now_cost))]
abbrev rX10_of : Room := { frames := 2, cells := 0, slots := 0, locals := 42 }
def fX10_of_b16 (N : Nat)  (m_bads : Int32) (m_nos : Int32) (m_fulls : Int32) : Option (Int32 × Int32 × Int32 × Int32) := gm_bind (fX10_refuse N m_bads m_nos m_fulls ((-2))) (fun o3 => some (o3.1, o3.2.1, o3.2.2.1, o3.2.2.2))
def fX10_of (N : Nat) (m_bads : Int32) (m_nos : Int32) (m_fulls : Int32) (m_now_words : Int32) (m_now_said : Int32) (m_now_ending : Nat → Int32) (m_now_meaning : Nat → Int32) (m_now_cost : Nat → Int32) (x1 : Int32) (x2 : Int32) : Option (Int32 × Int32 × Int32 × Int32) := gm_bind (fX10_isWord N m_now_words x1) (fun o1 => (if o1 = 0 then (fX10_of_b16 N  m_bads m_nos m_fulls) else gm_bind (fX10_fits N x2 4) (fun o4 => (if o4 = 0 then (fX10_of_b16 N  m_bads m_nos m_fulls) else (if x2 = 0 then gm_chk x1 10 (some ((m_now_ending (Int32.toNatClampNeg x1)), m_bads, m_nos, m_fulls)) else (if x2 = 1 then gm_chk x1 10 (some ((m_now_meaning (Int32.toNatClampNeg x1)), m_bads, m_nos, m_fulls)) else (if x2 = 2 then gm_chk x1 10 (some ((m_now_cost (Int32.toNatClampNeg x1)), m_bads, m_nos, m_fulls)) else some (((m_now_said >>> (x1 &&& 31)) &&& 1), m_bads, m_nos, m_fulls))))))))
set_option maxRecDepth 20000 in
theorem inX10_of_X10 : ∀ w ∈ u_ws RX10 TX10 17, w ∈ wsX10_of := fun w h => by
  obtain ⟨k, hk, rfl⟩ := List.mem_map.mp h
  have hk2 := List.mem_range.mp hk
  exact List.mem_of_getElem? (i := 22 + k) (by rcases (show k = 0 ∨ k = 1 ∨ k = 2 ∨ k = 3 ∨ k = 4 ∨ k = 5 ∨ k = 6 ∨ k = 7 ∨ k = 8 ∨ k = 9 ∨ k = 10 ∨ k = 11 ∨ k = 12 ∨ k = 13 ∨ k = 14 ∨ k = 15 ∨ k = 16 by omega) with rfl | rfl | rfl | rfl | rfl | rfl | rfl | rfl | rfl | rfl | rfl | rfl | rfl | rfl | rfl | rfl | rfl <;> rfl)
set_option maxRecDepth 20000 in
theorem inX10_of_X9 : ∀ w ∈ u_ws RX9 TX9 14, w ∈ wsX10_of := fun w h => by
  obtain ⟨k, hk, rfl⟩ := List.mem_map.mp h
  have hk2 := List.mem_range.mp hk
  exact List.mem_of_getElem? (i := 39 + k) (by rcases (show k = 0 ∨ k = 1 ∨ k = 2 ∨ k = 3 ∨ k = 4 ∨ k = 5 ∨ k = 6 ∨ k = 7 ∨ k = 8 ∨ k = 9 ∨ k = 10 ∨ k = 11 ∨ k = 12 ∨ k = 13 by omega) with rfl | rfl | rfl | rfl | rfl | rfl | rfl | rfl | rfl | rfl | rfl | rfl | rfl | rfl <;> rfl)
set_option maxRecDepth 100000 in
set_option maxHeartbeats 4000000 in
theorem tX10_of_b16 {p : Program} {l : Launch} {e : Env} {s : State} {m : MethodId} {args : Array Value} {below : List Frame} {meth : Method} {c : Code} {A : Nat → Prop} {dC : Nat → ClassId} {dI : Nat → Nat → Nat} {cI : ClassId} {q q_now q_now_ending q_now_meaning q_now_cost q_draft q_images q_kinds q_text q_duel q_cover q_clashes q_tally q_sayableByPair q_chosenPairs q_now_alikeTo q_now_kind q_now_want q_now_saidAhead q_now_heardWord q_now_heardAnswer : Nat} {m_imagesKept : Int32} {m_bads : Int32} {m_nos : Int32} {m_fulls : Int32} {m_above : Int64} {m_below : Int64} {m_now_words : Int32} {m_now_people : Int32} {m_now_said : Int32} {m_now_undos : Int32} {m_now_heard : Int32} {m_now_ending : Nat → Int32} {m_now_meaning : Nat → Int32} {m_now_cost : Nat → Int32} (C0 : gm_C p s m args meth c (dC, dI) [(cI, .int)] A gm_T RX10 cX10_of 3 (some .int) wsX10_of) {N : Nat} {out : Int32 × Int32 × Int32 × Int32}    {H : Heap} {locs : List Loc} {ls : Array Slot} (h : fX10_of_b16 N  m_bads m_nos m_fulls = some out) (hH : gm_H (dC, dI) A s (wX10_of cI q q_now q_now_ending q_now_meaning q_now_cost q_draft q_images q_kinds q_text q_duel q_cover q_clashes q_tally q_sayableByPair q_chosenPairs q_now_alikeTo q_now_kind q_now_want q_now_saidAhead q_now_heardWord q_now_heardAnswer m_imagesKept m_bads m_nos m_fulls m_above m_below m_now_words m_now_people m_now_said m_now_undos m_now_heard m_now_ending m_now_meaning m_now_cost) H locs) (hl : lv_has ls 3 [(0, .ref q)]) : W p l e rX10_of s m args below meth c H locs 0 0 (MQ below (gm_Q (dC, dI) [(cI, .int)] A (some (.int out.1)) (wX10_of cI q q_now q_now_ending q_now_meaning q_now_cost q_draft q_images q_kinds q_text q_duel q_cover q_clashes q_tally q_sayableByPair q_chosenPairs q_now_alikeTo q_now_kind q_now_want q_now_saidAhead q_now_heardWord q_now_heardAnswer m_imagesKept out.2.1 out.2.2.1 out.2.2.2 m_above m_below m_now_words m_now_people m_now_said m_now_undos m_now_heard m_now_ending m_now_meaning m_now_cost)) args s 0 0 A) (F0 m 16 ls []) := by
  obtain ⟨hx, hb, hml, hr, hown, hts, hA, hK, hX, hlocks⟩ := id C0
  unfold fX10_of_b16 at h
  refine lv_aload_n hx hb dX10_of_16 rfl (lv_at hl 0 rfl) ?_
  refine lv_bipush (v := (-2)) hx hb dX10_of_17 (by decide) ?_
  obtain ⟨o3, ho3, h⟩ := gm_bind_e h
  refine gm_callV (As := [.int (-2)]) (rest := []) (n := 1) (ci := 10) (q0 := 0) C0 hH (mX10_refuse l dC dI  q q_now q_draft q_images q_kinds q_text q_duel q_cover q_clashes q_tally q_sayableByPair q_chosenPairs m_imagesKept m_bads m_nos m_fulls m_above m_below ((-2))   ho3) gX10_of_X10_refuse rfl (by decide +kernel) ⟨rfl, rfl, Nat.le_of_ble_eq_true rfl, Nat.le_of_ble_eq_true rfl⟩ gm_T_ok (fun _ => trivial) [0] rfl rfl rfl [] rfl rfl rfl rfl hl.1 rfl (Nat.le_of_ble_eq_true rfl) dX10_of_19 ⟨Nat.zero_le _, Nat.zero_le _⟩ (fun H locs hH => ?_)
  have hH : gm_H (dC, dI) A s (wX10_of cI q q_now q_now_ending q_now_meaning q_now_cost q_draft q_images q_kinds q_text q_duel q_cover q_clashes q_tally q_sayableByPair q_chosenPairs q_now_alikeTo q_now_kind q_now_want q_now_saidAhead q_now_heardWord q_now_heardAnswer m_imagesKept o3.2.1 o3.2.2.1 o3.2.2.2 m_above m_below m_now_words m_now_people m_now_said m_now_undos m_now_heard m_now_ending m_now_meaning m_now_cost) H locs := hH
  obtain rfl := Option.some.inj h
  exact gm_iret C0 hH dX10_of_22
set_option maxRecDepth 100000 in
set_option maxHeartbeats 4000000 in
theorem mX10_of (l : Launch) (dC : Nat → ClassId) (dI : Nat → Nat → Nat) (cI : ClassId) (q q_now q_now_ending q_now_meaning q_now_cost q_draft q_images q_kinds q_text q_duel q_cover q_clashes q_tally q_sayableByPair q_chosenPairs q_now_alikeTo q_now_kind q_now_want q_now_saidAhead q_now_heardWord q_now_heardAnswer : Nat) (m_imagesKept : Int32) (m_bads : Int32) (m_nos : Int32) (m_fulls : Int32) (m_above : Int64) (m_below : Int64) (m_now_words : Int32) (m_now_people : Int32) (m_now_said : Int32) (m_now_undos : Int32) (m_now_heard : Int32) (m_now_ending : Nat → Int32) (m_now_meaning : Nat → Int32) (m_now_cost : Nat → Int32) (x1 : Int32) (x2 : Int32)  {N : Nat} {out : Int32 × Int32 × Int32 × Int32} (h : fX10_of N m_bads m_nos m_fulls m_now_words m_now_said m_now_ending m_now_meaning m_now_cost x1 x2 = some out) : gm_Met l yX10_of wsX10_of rX10_of (dC, dI) [(cI, .int)] gm_T [.ref q, .int x1, .int x2] (wX10_of cI q q_now q_now_ending q_now_meaning q_now_cost q_draft q_images q_kinds q_text q_duel q_cover q_clashes q_tally q_sayableByPair q_chosenPairs q_now_alikeTo q_now_kind q_now_want q_now_saidAhead q_now_heardWord q_now_heardAnswer m_imagesKept m_bads m_nos m_fulls m_above m_below m_now_words m_now_people m_now_said m_now_undos m_now_heard m_now_ending m_now_meaning m_now_cost) (some (.int out.1)) (wX10_of cI q q_now q_now_ending q_now_meaning q_now_cost q_draft q_images q_kinds q_text q_duel q_cover q_clashes q_tally q_sayableByPair q_chosenPairs q_now_alikeTo q_now_kind q_now_want q_now_saidAhead q_now_heardWord q_now_heardAnswer m_imagesKept out.2.1 out.2.2.1 out.2.2.2 m_above m_below m_now_words m_now_people m_now_said m_now_undos m_now_heard m_now_ending m_now_meaning m_now_cost) := by
  refine gm_ofW (cc := cX10_of) (maxL := 3) (ret := (some .int)) (by decide +kernel) rfl (Nat.le_of_ble_eq_true rfl) ?_
  intro p e s m below meth c A C0 hH ls hl
  generalize ([.ref q, .int x1, .int x2] : List Value).toArray = args at C0 ⊢
  have hl : lv_has ls 3 [(0, .ref q), (1, .int x1), (2, .int x2)] := hl
  generalize s.heap = H at hH ⊢
  generalize ([] : List Loc) = locs at hH ⊢
  obtain ⟨hx, hb, hml, hr, hown, hts, hA, hK, hX, hlocks⟩ := id C0
  unfold fX10_of at h
  refine lv_aload_n hx hb dX10_of_0 rfl (lv_at hl 0 rfl) ?_
  refine lv_iload_n hx hb dX10_of_1 rfl (lv_at hl 1 rfl) ?_
  obtain ⟨o1, ho1, h⟩ := gm_bind_e h
  refine gm_callV (As := [.int x1]) (rest := []) (n := 1) (ci := 10) (q0 := 0) C0 hH (mX10_isWord l dC dI  q q_now q_draft q_images q_kinds q_text q_duel q_cover q_clashes q_tally q_sayableByPair q_chosenPairs q_now_ending q_now_meaning q_now_cost q_now_alikeTo q_now_kind q_now_want q_now_saidAhead q_now_heardWord q_now_heardAnswer m_imagesKept m_bads m_nos m_fulls m_above m_below m_now_words m_now_people m_now_said m_now_undos m_now_heard x1   ho1) gX10_of_X10_isWord rfl (by decide +kernel) ⟨rfl, rfl, Nat.le_of_ble_eq_true rfl, Nat.le_of_ble_eq_true rfl⟩ gm_T_ok (fun _ => trivial) [0, 1] rfl rfl rfl [] rfl rfl rfl rfl hl.1 rfl (Nat.le_of_ble_eq_true rfl) dX10_of_2 ⟨Nat.zero_le _, Nat.zero_le _⟩ (fun H locs hH => ?_)
  have hH : gm_H (dC, dI) A s (wX10_of cI q q_now q_now_ending q_now_meaning q_now_cost q_draft q_images q_kinds q_text q_duel q_cover q_clashes q_tally q_sayableByPair q_chosenPairs q_now_alikeTo q_now_kind q_now_want q_now_saidAhead q_now_heardWord q_now_heardAnswer m_imagesKept m_bads m_nos m_fulls m_above m_below m_now_words m_now_people m_now_said m_now_undos m_now_heard m_now_ending m_now_meaning m_now_cost) H locs := hH
  refine lv_if_eq (tgt := 16) hx hb dX10_of_5 (by decide) (fun hc2 => ?_) (fun hc2 => ?_)
  · replace h := gm_pos hc2 h
    exact tX10_of_b16 C0  h hH (lv_sub hl [0] rfl)
  · replace h := gm_neg hc2 h
    refine lv_iload_n hx hb dX10_of_8 rfl (lv_at hl 2 rfl) ?_
    refine lv_iconst (v := 4) hx hb dX10_of_9 (by decide) ?_
    obtain ⟨o4, ho4, h⟩ := gm_bind_e h
    refine gm_callS (As := [.int x2, .int 4]) (rest := []) (n := 2) C0 hH (mX10_fits l dC dI    x2 4   ho4) gX10_of_X10_fits rfl (by decide +kernel) ⟨rfl, rfl, Nat.le_of_ble_eq_true rfl, Nat.le_of_ble_eq_true rfl⟩ gm_T_ok (fun _ => trivial) [] rfl rfl rfl [] rfl rfl hl.1 rfl (Nat.le_of_ble_eq_true rfl) dX10_of_10 ⟨Nat.zero_le _, Nat.zero_le _⟩ (fun H locs hH => ?_)
    have hH : gm_H (dC, dI) A s (wX10_of cI q q_now q_now_ending q_now_meaning q_now_cost q_draft q_images q_kinds q_text q_duel q_cover q_clashes q_tally q_sayableByPair q_chosenPairs q_now_alikeTo q_now_kind q_now_want q_now_saidAhead q_now_heardWord q_now_heardAnswer m_imagesKept m_bads m_nos m_fulls m_above m_below m_now_words m_now_people m_now_said m_now_undos m_now_heard m_now_ending m_now_meaning m_now_cost) H locs := hH
    refine lv_if_ne (tgt := 23) hx hb dX10_of_13 (by decide) (fun hc5 => ?_) (fun hc5 => ?_)
    · replace h := gm_neg hc5 h
      refine lv_iload_n hx hb dX10_of_23 rfl (lv_at hl 2 rfl) ?_
      by_cases hs6_0 : x2 = 0
      · replace h := gm_pos hs6_0 h
        refine lv_tableIn (tgt := 52) (off := 28) hx hb dX10_of_24 (by rw [hs6_0]; decide) (by rw [hs6_0]; decide) (by rw [hs6_0]; decide) (by decide) ?_
        refine lv_aload_n hx hb dX10_of_52 rfl (lv_at hl 0 rfl) ?_
        refine gm_get (ci := 10) C0 hH inX10_of_X10 0 0 1 rfl rfl (by decide) rfl rfl dX10_of_53 ?_
        refine gm_get (ci := 9) C0 hH inX10_of_X9 1 0 2 rfl rfl (by decide) rfl rfl dX10_of_56 ?_
        refine lv_iload_n hx hb dX10_of_59 rfl (lv_at hl 1 rfl) ?_
        obtain ⟨hi7, h⟩ := gm_chk_e h
        refine gm_iald C0 hH hi7 2 0 rfl rfl dX10_of_60 ?_
        obtain rfl := Option.some.inj h
        exact gm_iret C0 hH dX10_of_61
      · replace h := gm_neg hs6_0 h
        by_cases hs6_1 : x2 = 1
        · replace h := gm_pos hs6_1 h
          refine lv_tableIn (tgt := 62) (off := 38) hx hb dX10_of_24 (by rw [hs6_1]; decide) (by rw [hs6_1]; decide) (by rw [hs6_1]; decide) (by decide) ?_
          refine lv_aload_n hx hb dX10_of_62 rfl (lv_at hl 0 rfl) ?_
          refine gm_get (ci := 10) C0 hH inX10_of_X10 0 0 1 rfl rfl (by decide) rfl rfl dX10_of_63 ?_
          refine gm_get (ci := 9) C0 hH inX10_of_X9 1 1 3 rfl rfl (by decide) rfl rfl dX10_of_66 ?_
          refine lv_iload_n hx hb dX10_of_69 rfl (lv_at hl 1 rfl) ?_
          obtain ⟨hi8, h⟩ := gm_chk_e h
          refine gm_iald C0 hH hi8 3 0 rfl rfl dX10_of_70 ?_
          obtain rfl := Option.some.inj h
          exact gm_iret C0 hH dX10_of_71
        · replace h := gm_neg hs6_1 h
          by_cases hs6_2 : x2 = 2
          · replace h := gm_pos hs6_2 h
            refine lv_tableIn (tgt := 72) (off := 48) hx hb dX10_of_24 (by rw [hs6_2]; decide) (by rw [hs6_2]; decide) (by rw [hs6_2]; decide) (by decide) ?_
            refine lv_aload_n hx hb dX10_of_72 rfl (lv_at hl 0 rfl) ?_
            refine gm_get (ci := 10) C0 hH inX10_of_X10 0 0 1 rfl rfl (by decide) rfl rfl dX10_of_73 ?_
            refine gm_get (ci := 9) C0 hH inX10_of_X9 1 2 4 rfl rfl (by decide) rfl rfl dX10_of_76 ?_
            refine lv_iload_n hx hb dX10_of_79 rfl (lv_at hl 1 rfl) ?_
            obtain ⟨hi9, h⟩ := gm_chk_e h
            refine gm_iald C0 hH hi9 4 0 rfl rfl dX10_of_80 ?_
            obtain rfl := Option.some.inj h
            exact gm_iret C0 hH dX10_of_81
          · replace h := gm_neg hs6_2 h
            refine lv_tableOut (tgt := 82) hx hb dX10_of_24 (by have hj0 := lv_neT hs6_0 (a := 0) rfl; have hj1 := lv_neT hs6_1 (a := 1) rfl; have hj2 := lv_neT hs6_2 (a := 2) rfl; omega) (by decide) ?_
            refine lv_aload_n hx hb dX10_of_82 rfl (lv_at hl 0 rfl) ?_
            refine gm_get (ci := 10) C0 hH inX10_of_X10 0 0 1 rfl rfl (by decide) rfl rfl dX10_of_83 ?_
            refine gm_get (ci := 9) C0 hH inX10_of_X9 1 8 5 rfl rfl (by decide) rfl rfl dX10_of_86 ?_
            refine lv_iload_n hx hb dX10_of_89 rfl (lv_at hl 1 rfl) ?_
            refine lv_ishr hx hb dX10_of_90 ?_
            refine lv_iconst (v := 1) hx hb dX10_of_91 (by decide) ?_
            refine lv_iand hx hb dX10_of_92 ?_
            obtain rfl := Option.some.inj h
            exact gm_iret C0 hH dX10_of_93
    · replace h := gm_pos hc5 h
      exact tX10_of_b16 C0  h hH (lv_sub hl [0] rfl)
