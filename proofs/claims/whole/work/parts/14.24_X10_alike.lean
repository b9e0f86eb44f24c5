/-! X10_alike -/
abbrev wX10_alike (cI : ClassId) (q q_now q_now_alikeTo q_draft q_images q_kinds q_text q_duel q_cover q_clashes q_tally q_sayableByPair q_chosenPairs q_now_ending q_now_meaning q_now_cost q_now_kind q_now_want q_now_saidAhead q_now_heardWord q_now_heardAnswer : Nat) (m_imagesKept : Int32) (m_bads : Int32) (m_nos : Int32) (m_fulls : Int32) (m_above : Int64) (m_below : Int64) (m_now_words : Int32) (m_now_people : Int32) (m_now_said : Int32) (m_now_undos : Int32) (m_now_heard : Int32) (m_now_alikeTo : Nat → Int32) : va_W := [(q, .inr (10, [.ref q_now, .ref q_draft, .ref q_images, .int m_imagesKept, .ref q_kinds, .ref q_text, .ref q_duel, .ref q_cover, .int m_bads, .int m_nos, .int m_fulls, .long m_above, .long m_below, .ref q_clashes, .ref q_tally, .ref q_sayableByPair, .ref q_chosenPairs])), (q_now, .inr (9, [.ref q_now_ending, .ref q_now_meaning, .ref q_now_cost, .int m_now_words, .ref q_now_alikeTo, .ref q_now_kind, .ref q_now_want, .int m_now_people, .int m_now_said, .ref q_now_saidAhead, .int m_now_undos, .ref q_now_heardWord, .ref q_now_heardAnswer, .int m_now_heard])), (q_now_alikeTo, .inl (cI, 8, .inl m_now_alikeTo))]
abbrev rX10_alike : Room := { frames := 1, cells := 0, slots := 0, locals := 23 }
def fX10_alike_b31 (N : Nat)  (m_bads : Int32) (m_nos : Int32) (m_fulls : Int32) (m_now_alikeTo : Nat → Int32) : Option (Int32 × Int32 × Int32 × Int32 × (Nat → Int32)) := gm_bind (fX10_refuse N m_bads m_nos m_fulls ((-2))) (fun o3 => some (o3.1, o3.2.1, o3.2.2.1, o3.2.2.2, m_now_alikeTo))
def fX10_alike_b65 (N : Nat)  (m_bads : Int32) (m_nos : Int32) (m_fulls : Int32) (m_now_alikeTo : Nat → Int32) (x4 : Int32) (k1 : Int32) (k2 : Int32) (k3 : Int32) : Option (Int32 × Int32 × Int32 × Int32 × (Nat → Int32)) := gm_bind (fX9_setAlike N m_now_alikeTo k1 k2 k3) (fun o11 => (if x4 = 0 then some (0, m_bads, m_nos, m_fulls, o11) else some (1, m_bads, m_nos, m_fulls, o11)))
def fX10_alike (N : Nat) (m_bads : Int32) (m_nos : Int32) (m_fulls : Int32) (m_now_alikeTo : Nat → Int32) (x1 : Int32) (x2 : Int32) (x3 : Int32) : Option (Int32 × Int32 × Int32 × Int32 × (Nat → Int32)) := gm_bind (fX10_fits N x1 8) (fun o1 => (if o1 = 0 then (fX10_alike_b31 N  m_bads m_nos m_fulls m_now_alikeTo) else gm_bind (fX10_fits N x2 8) (fun o4 => (if o4 = 0 then (fX10_alike_b31 N  m_bads m_nos m_fulls m_now_alikeTo) else (if x1 = x2 then (fX10_alike_b31 N  m_bads m_nos m_fulls m_now_alikeTo) else gm_bind (fX10_fits N x3 2) (fun o7 => (if o7 = 0 then (fX10_alike_b31 N  m_bads m_nos m_fulls m_now_alikeTo) else gm_bind (fX9_areAlike N m_now_alikeTo x1 x2) (fun o9 => (if x3 = 1 then (fX10_alike_b65 N  m_bads m_nos m_fulls m_now_alikeTo o9 x1 x2 1) else (fX10_alike_b65 N  m_bads m_nos m_fulls m_now_alikeTo o9 x1 x2 0))))))))))
set_option maxRecDepth 20000 in
theorem inX10_alike_X10 : ∀ w ∈ u_ws RX10 TX10 17, w ∈ wsX10_alike := fun w h => by
  obtain ⟨k, hk, rfl⟩ := List.mem_map.mp h
  have hk2 := List.mem_range.mp hk
  exact List.mem_of_getElem? (i := 23 + k) (by rcases (show k = 0 ∨ k = 1 ∨ k = 2 ∨ k = 3 ∨ k = 4 ∨ k = 5 ∨ k = 6 ∨ k = 7 ∨ k = 8 ∨ k = 9 ∨ k = 10 ∨ k = 11 ∨ k = 12 ∨ k = 13 ∨ k = 14 ∨ k = 15 ∨ k = 16 by omega) with rfl | rfl | rfl | rfl | rfl | rfl | rfl | rfl | rfl | rfl | rfl | rfl | rfl | rfl | rfl | rfl | rfl <;> rfl)
set_option maxRecDepth 20000 in
theorem inX10_alike_X9 : ∀ w ∈ u_ws RX9 TX9 14, w ∈ wsX10_alike := fun w h => by
  obtain ⟨k, hk, rfl⟩ := List.mem_map.mp h
  have hk2 := List.mem_range.mp hk
  exact List.mem_of_getElem? (i := 40 + k) (by rcases (show k = 0 ∨ k = 1 ∨ k = 2 ∨ k = 3 ∨ k = 4 ∨ k = 5 ∨ k = 6 ∨ k = 7 ∨ k = 8 ∨ k = 9 ∨ k = 10 ∨ k = 11 ∨ k = 12 ∨ k = 13 by omega) with rfl | rfl | rfl | rfl | rfl | rfl | rfl | rfl | rfl | rfl | rfl | rfl | rfl | rfl <;> rfl)
set_option maxRecDepth 100000 in
set_option maxHeartbeats 4000000 in
theorem tX10_alike_b31 {p : Program} {l : Launch} {e : Env} {s : State} {m : MethodId} {args : Array Value} {below : List Frame} {meth : Method} {c : Code} {A : Nat → Prop} {dC : Nat → ClassId} {dI : Nat → Nat → Nat} {cI : ClassId} {q q_now q_now_alikeTo q_draft q_images q_kinds q_text q_duel q_cover q_clashes q_tally q_sayableByPair q_chosenPairs q_now_ending q_now_meaning q_now_cost q_now_kind q_now_want q_now_saidAhead q_now_heardWord q_now_heardAnswer : Nat} {m_imagesKept : Int32} {m_bads : Int32} {m_nos : Int32} {m_fulls : Int32} {m_above : Int64} {m_below : Int64} {m_now_words : Int32} {m_now_people : Int32} {m_now_said : Int32} {m_now_undos : Int32} {m_now_heard : Int32} {m_now_alikeTo : Nat → Int32} (C0 : gm_C p s m args meth c (dC, dI) [(cI, .int)] A gm_T RX10 cX10_alike 5 (some .int) wsX10_alike) {N : Nat} {out : Int32 × Int32 × Int32 × Int32 × (Nat → Int32)}    {H : Heap} {locs : List Loc} {ls : Array Slot} (h : fX10_alike_b31 N  m_bads m_nos m_fulls m_now_alikeTo = some out) (hH : gm_H (dC, dI) A s (wX10_alike cI q q_now q_now_alikeTo q_draft q_images q_kinds q_text q_duel q_cover q_clashes q_tally q_sayableByPair q_chosenPairs q_now_ending q_now_meaning q_now_cost q_now_kind q_now_want q_now_saidAhead q_now_heardWord q_now_heardAnswer m_imagesKept m_bads m_nos m_fulls m_above m_below m_now_words m_now_people m_now_said m_now_undos m_now_heard m_now_alikeTo) H locs) (hl : lv_has ls 5 [(0, .ref q)]) : W p l e rX10_alike s m args below meth c H locs 0 0 (MQ below (gm_Q (dC, dI) [(cI, .int)] A (some (.int out.1)) (wX10_alike cI q q_now q_now_alikeTo q_draft q_images q_kinds q_text q_duel q_cover q_clashes q_tally q_sayableByPair q_chosenPairs q_now_ending q_now_meaning q_now_cost q_now_kind q_now_want q_now_saidAhead q_now_heardWord q_now_heardAnswer m_imagesKept out.2.1 out.2.2.1 out.2.2.2.1 m_above m_below m_now_words m_now_people m_now_said m_now_undos m_now_heard out.2.2.2.2)) args s 0 0 A) (F0 m 31 ls []) := by
  obtain ⟨hx, hb, hml, hr, hown, hts, hA, hK, hX, hlocks⟩ := id C0
  unfold fX10_alike_b31 at h
  refine lv_aload_n hx hb dX10_alike_31 rfl (lv_at hl 0 rfl) ?_
  refine lv_bipush (v := (-2)) hx hb dX10_alike_32 (by decide) ?_
  obtain ⟨o3, ho3, h⟩ := gm_bind_e h
  refine gm_callV (As := [.int (-2)]) (rest := []) (n := 1) (ci := 10) (q0 := 0) C0 hH (mX10_refuse l dC dI  q q_now q_draft q_images q_kinds q_text q_duel q_cover q_clashes q_tally q_sayableByPair q_chosenPairs m_imagesKept m_bads m_nos m_fulls m_above m_below ((-2))   ho3) gX10_alike_X10_refuse rfl (by decide +kernel) ⟨rfl, rfl, Nat.le_of_ble_eq_true rfl, Nat.le_of_ble_eq_true rfl⟩ gm_T_ok (fun _ => trivial) [0] rfl rfl rfl [] rfl rfl rfl rfl hl.1 rfl (Nat.le_of_ble_eq_true rfl) dX10_alike_34 ⟨Nat.zero_le _, Nat.zero_le _⟩ (fun H locs hH => ?_)
  have hH : gm_H (dC, dI) A s (wX10_alike cI q q_now q_now_alikeTo q_draft q_images q_kinds q_text q_duel q_cover q_clashes q_tally q_sayableByPair q_chosenPairs q_now_ending q_now_meaning q_now_cost q_now_kind q_now_want q_now_saidAhead q_now_heardWord q_now_heardAnswer m_imagesKept o3.2.1 o3.2.2.1 o3.2.2.2 m_above m_below m_now_words m_now_people m_now_said m_now_undos m_now_heard m_now_alikeTo) H locs := hH
  obtain rfl := Option.some.inj h
  exact gm_iret C0 hH dX10_alike_37
set_option maxRecDepth 100000 in
set_option maxHeartbeats 4000000 in
theorem tX10_alike_b65 {p : Program} {l : Launch} {e : Env} {s : State} {m : MethodId} {args : Array Value} {below : List Frame} {meth : Method} {c : Code} {A : Nat → Prop} {dC : Nat → ClassId} {dI : Nat → Nat → Nat} {cI : ClassId} {q q_now q_now_alikeTo q_draft q_images q_kinds q_text q_duel q_cover q_clashes q_tally q_sayableByPair q_chosenPairs q_now_ending q_now_meaning q_now_cost q_now_kind q_now_want q_now_saidAhead q_now_heardWord q_now_heardAnswer : Nat} {m_imagesKept : Int32} {m_bads : Int32} {m_nos : Int32} {m_fulls : Int32} {m_above : Int64} {m_below : Int64} {m_now_words : Int32} {m_now_people : Int32} {m_now_said : Int32} {m_now_undos : Int32} {m_now_heard : Int32} {m_now_alikeTo : Nat → Int32} {x4 : Int32} {k1 : Int32} {k2 : Int32} {k3 : Int32} (C0 : gm_C p s m args meth c (dC, dI) [(cI, .int)] A gm_T RX10 cX10_alike 5 (some .int) wsX10_alike) {N : Nat} {out : Int32 × Int32 × Int32 × Int32 × (Nat → Int32)}    {H : Heap} {locs : List Loc} {ls : Array Slot} (h : fX10_alike_b65 N  m_bads m_nos m_fulls m_now_alikeTo x4 k1 k2 k3 = some out) (hH : gm_H (dC, dI) A s (wX10_alike cI q q_now q_now_alikeTo q_draft q_images q_kinds q_text q_duel q_cover q_clashes q_tally q_sayableByPair q_chosenPairs q_now_ending q_now_meaning q_now_cost q_now_kind q_now_want q_now_saidAhead q_now_heardWord q_now_heardAnswer m_imagesKept m_bads m_nos m_fulls m_above m_below m_now_words m_now_people m_now_said m_now_undos m_now_heard m_now_alikeTo) H locs) (hl : lv_has ls 5 [(4, .int x4)]) : W p l e rX10_alike s m args below meth c H locs 0 0 (MQ below (gm_Q (dC, dI) [(cI, .int)] A (some (.int out.1)) (wX10_alike cI q q_now q_now_alikeTo q_draft q_images q_kinds q_text q_duel q_cover q_clashes q_tally q_sayableByPair q_chosenPairs q_now_ending q_now_meaning q_now_cost q_now_kind q_now_want q_now_saidAhead q_now_heardWord q_now_heardAnswer m_imagesKept out.2.1 out.2.2.1 out.2.2.2.1 m_above m_below m_now_words m_now_people m_now_said m_now_undos m_now_heard out.2.2.2.2)) args s 0 0 A) (F0 m 65 ls [.int k3, .int k2, .int k1, .ref q_now]) := by
  obtain ⟨hx, hb, hml, hr, hown, hts, hA, hK, hX, hlocks⟩ := id C0
  unfold fX10_alike_b65 at h
  obtain ⟨o11, ho11, h⟩ := gm_bind_e h
  refine gm_callV (As := [.int k1, .int k2, .int k3]) (rest := []) (n := 3) (ci := 9) (q0 := 1) C0 hH (mX9_setAlike l dC dI cI q_now q_now_alikeTo q_now_ending q_now_meaning q_now_cost q_now_kind q_now_want q_now_saidAhead q_now_heardWord q_now_heardAnswer m_now_words m_now_people m_now_said m_now_undos m_now_heard m_now_alikeTo k1 k2 k3   ho11) gX10_alike_X9_setAlike rfl (by decide +kernel) ⟨rfl, rfl, Nat.le_of_ble_eq_true rfl, Nat.le_of_ble_eq_true rfl⟩ gm_T_ok (fun _ => trivial) [1, 2] rfl rfl rfl [0] rfl rfl rfl rfl hl.1 rfl (Nat.le_of_ble_eq_true rfl) dX10_alike_65 ⟨Nat.zero_le _, Nat.zero_le _⟩ (fun H locs hH => ?_)
  have hH : gm_H (dC, dI) A s (wX10_alike cI q q_now q_now_alikeTo q_draft q_images q_kinds q_text q_duel q_cover q_clashes q_tally q_sayableByPair q_chosenPairs q_now_ending q_now_meaning q_now_cost q_now_kind q_now_want q_now_saidAhead q_now_heardWord q_now_heardAnswer m_imagesKept m_bads m_nos m_fulls m_above m_below m_now_words m_now_people m_now_said m_now_undos m_now_heard o11) H locs := hH
  refine lv_iload hx hb dX10_alike_68 (lv_at hl 0 rfl) ?_
  refine lv_if_eq (tgt := 77) hx hb dX10_alike_70 (by decide) (fun hc12 => ?_) (fun hc12 => ?_)
  · replace h := gm_pos hc12 h
    refine lv_iconst (v := 0) hx hb dX10_alike_77 (by decide) ?_
    obtain rfl := Option.some.inj h
    exact gm_iret C0 hH dX10_alike_78
  · replace h := gm_neg hc12 h
    refine lv_iconst (v := 1) hx hb dX10_alike_73 (by decide) ?_
    refine lv_goto (tgt := 78) hx hb dX10_alike_74 (by decide) ?_
    obtain rfl := Option.some.inj h
    exact gm_iret C0 hH dX10_alike_78
set_option maxRecDepth 100000 in
set_option maxHeartbeats 4000000 in
theorem mX10_alike (l : Launch) (dC : Nat → ClassId) (dI : Nat → Nat → Nat) (cI : ClassId) (q q_now q_now_alikeTo q_draft q_images q_kinds q_text q_duel q_cover q_clashes q_tally q_sayableByPair q_chosenPairs q_now_ending q_now_meaning q_now_cost q_now_kind q_now_want q_now_saidAhead q_now_heardWord q_now_heardAnswer : Nat) (m_imagesKept : Int32) (m_bads : Int32) (m_nos : Int32) (m_fulls : Int32) (m_above : Int64) (m_below : Int64) (m_now_words : Int32) (m_now_people : Int32) (m_now_said : Int32) (m_now_undos : Int32) (m_now_heard : Int32) (m_now_alikeTo : Nat → Int32) (x1 : Int32) (x2 : Int32) (x3 : Int32)  {N : Nat} {out : Int32 × Int32 × Int32 × Int32 × (Nat → Int32)} (h : fX10_alike N m_bads m_nos m_fulls m_now_alikeTo x1 x2 x3 = some out) : gm_Met l yX10_alike wsX10_alike rX10_alike (dC, dI) [(cI, .int)] gm_T [.ref q, .int x1, .int x2, .int x3] (wX10_alike cI q q_now q_now_alikeTo q_draft q_images q_kinds q_text q_duel q_cover q_clashes q_tally q_sayableByPair q_chosenPairs q_now_ending q_now_meaning q_now_cost q_now_kind q_now_want q_now_saidAhead q_now_heardWord q_now_heardAnswer m_imagesKept m_bads m_nos m_fulls m_above m_below m_now_words m_now_people m_now_said m_now_undos m_now_heard m_now_alikeTo) (some (.int out.1)) (wX10_alike cI q q_now q_now_alikeTo q_draft q_images q_kinds q_text q_duel q_cover q_clashes q_tally q_sayableByPair q_chosenPairs q_now_ending q_now_meaning q_now_cost q_now_kind q_now_want q_now_saidAhead q_now_heardWord q_now_heardAnswer m_imagesKept out.2.1 out.2.2.1 out.2.2.2.1 m_above m_below m_now_words m_now_people m_now_said m_now_undos m_now_heard out.2.2.2.2) := by
  refine gm_ofW (cc := cX10_alike) (maxL := 5) (ret := (some .int)) (by decide +kernel) rfl (Nat.le_of_ble_eq_true rfl) ?_
  intro p e s m below meth c A C0 hH ls hl
  generalize ([.ref q, .int x1, .int x2, .int x3] : List Value).toArray = args at C0 ⊢
  have hl : lv_has ls 5 [(0, .ref q), (1, .int x1), (2, .int x2), (3, .int x3)] := hl
  generalize s.heap = H at hH ⊢
  generalize ([] : List Loc) = locs at hH ⊢
  obtain ⟨hx, hb, hml, hr, hown, hts, hA, hK, hX, hlocks⟩ := id C0
  unfold fX10_alike at h
  refine lv_iload_n hx hb dX10_alike_0 rfl (lv_at hl 1 rfl) ?_
  refine lv_bipush (v := 8) hx hb dX10_alike_1 (by decide) ?_
  obtain ⟨o1, ho1, h⟩ := gm_bind_e h
  refine gm_callS (As := [.int x1, .int 8]) (rest := []) (n := 2) C0 hH (mX10_fits l dC dI    x1 8   ho1) gX10_alike_X10_fits rfl (by decide +kernel) ⟨rfl, rfl, Nat.le_of_ble_eq_true rfl, Nat.le_of_ble_eq_true rfl⟩ gm_T_ok (fun _ => trivial) [] rfl rfl rfl [] rfl rfl hl.1 rfl (Nat.le_of_ble_eq_true rfl) dX10_alike_3 ⟨Nat.zero_le _, Nat.zero_le _⟩ (fun H locs hH => ?_)
  have hH : gm_H (dC, dI) A s (wX10_alike cI q q_now q_now_alikeTo q_draft q_images q_kinds q_text q_duel q_cover q_clashes q_tally q_sayableByPair q_chosenPairs q_now_ending q_now_meaning q_now_cost q_now_kind q_now_want q_now_saidAhead q_now_heardWord q_now_heardAnswer m_imagesKept m_bads m_nos m_fulls m_above m_below m_now_words m_now_people m_now_said m_now_undos m_now_heard m_now_alikeTo) H locs := hH
  refine lv_if_eq (tgt := 31) hx hb dX10_alike_6 (by decide) (fun hc2 => ?_) (fun hc2 => ?_)
  · replace h := gm_pos hc2 h
    exact tX10_alike_b31 C0  h hH (lv_sub hl [0] rfl)
  · replace h := gm_neg hc2 h
    refine lv_iload_n hx hb dX10_alike_9 rfl (lv_at hl 2 rfl) ?_
    refine lv_bipush (v := 8) hx hb dX10_alike_10 (by decide) ?_
    obtain ⟨o4, ho4, h⟩ := gm_bind_e h
    refine gm_callS (As := [.int x2, .int 8]) (rest := []) (n := 2) C0 hH (mX10_fits l dC dI    x2 8   ho4) gX10_alike_X10_fits rfl (by decide +kernel) ⟨rfl, rfl, Nat.le_of_ble_eq_true rfl, Nat.le_of_ble_eq_true rfl⟩ gm_T_ok (fun _ => trivial) [] rfl rfl rfl [] rfl rfl hl.1 rfl (Nat.le_of_ble_eq_true rfl) dX10_alike_12 ⟨Nat.zero_le _, Nat.zero_le _⟩ (fun H locs hH => ?_)
    have hH : gm_H (dC, dI) A s (wX10_alike cI q q_now q_now_alikeTo q_draft q_images q_kinds q_text q_duel q_cover q_clashes q_tally q_sayableByPair q_chosenPairs q_now_ending q_now_meaning q_now_cost q_now_kind q_now_want q_now_saidAhead q_now_heardWord q_now_heardAnswer m_imagesKept m_bads m_nos m_fulls m_above m_below m_now_words m_now_people m_now_said m_now_undos m_now_heard m_now_alikeTo) H locs := hH
    refine lv_if_eq (tgt := 31) hx hb dX10_alike_15 (by decide) (fun hc5 => ?_) (fun hc5 => ?_)
    · replace h := gm_pos hc5 h
      exact tX10_alike_b31 C0  h hH (lv_sub hl [0] rfl)
    · replace h := gm_neg hc5 h
      refine lv_iload_n hx hb dX10_alike_18 rfl (lv_at hl 1 rfl) ?_
      refine lv_iload_n hx hb dX10_alike_19 rfl (lv_at hl 2 rfl) ?_
      refine lv_icmp_eq (tgt := 31) hx hb dX10_alike_20 (by decide) (fun hc6 => ?_) (fun hc6 => ?_)
      · replace h := gm_pos hc6 h
        exact tX10_alike_b31 C0  h hH (lv_sub hl [0] rfl)
      · replace h := gm_neg hc6 h
        refine lv_iload_n hx hb dX10_alike_23 rfl (lv_at hl 3 rfl) ?_
        refine lv_iconst (v := 2) hx hb dX10_alike_24 (by decide) ?_
        obtain ⟨o7, ho7, h⟩ := gm_bind_e h
        refine gm_callS (As := [.int x3, .int 2]) (rest := []) (n := 2) C0 hH (mX10_fits l dC dI    x3 2   ho7) gX10_alike_X10_fits rfl (by decide +kernel) ⟨rfl, rfl, Nat.le_of_ble_eq_true rfl, Nat.le_of_ble_eq_true rfl⟩ gm_T_ok (fun _ => trivial) [] rfl rfl rfl [] rfl rfl hl.1 rfl (Nat.le_of_ble_eq_true rfl) dX10_alike_25 ⟨Nat.zero_le _, Nat.zero_le _⟩ (fun H locs hH => ?_)
        have hH : gm_H (dC, dI) A s (wX10_alike cI q q_now q_now_alikeTo q_draft q_images q_kinds q_text q_duel q_cover q_clashes q_tally q_sayableByPair q_chosenPairs q_now_ending q_now_meaning q_now_cost q_now_kind q_now_want q_now_saidAhead q_now_heardWord q_now_heardAnswer m_imagesKept m_bads m_nos m_fulls m_above m_below m_now_words m_now_people m_now_said m_now_undos m_now_heard m_now_alikeTo) H locs := hH
        refine lv_if_ne (tgt := 38) hx hb dX10_alike_28 (by decide) (fun hc8 => ?_) (fun hc8 => ?_)
        · replace h := gm_neg hc8 h
          refine lv_aload_n hx hb dX10_alike_38 rfl (lv_at hl 0 rfl) ?_
          refine gm_get (ci := 10) C0 hH inX10_alike_X10 0 0 1 rfl rfl (by decide) rfl rfl dX10_alike_39 ?_
          refine lv_iload_n hx hb dX10_alike_42 rfl (lv_at hl 1 rfl) ?_
          refine lv_iload_n hx hb dX10_alike_43 rfl (lv_at hl 2 rfl) ?_
          obtain ⟨o9, ho9, h⟩ := gm_bind_e h
          refine gm_callV (As := [.int x1, .int x2]) (rest := []) (n := 2) (ci := 9) (q0 := 1) C0 hH (mX9_areAlike l dC dI cI q_now q_now_alikeTo q_now_ending q_now_meaning q_now_cost q_now_kind q_now_want q_now_saidAhead q_now_heardWord q_now_heardAnswer m_now_words m_now_people m_now_said m_now_undos m_now_heard m_now_alikeTo x1 x2   ho9) gX10_alike_X9_areAlike rfl (by decide +kernel) ⟨rfl, rfl, Nat.le_of_ble_eq_true rfl, Nat.le_of_ble_eq_true rfl⟩ gm_T_ok (fun _ => trivial) [1, 2] rfl rfl rfl [0] rfl rfl rfl rfl hl.1 rfl (Nat.le_of_ble_eq_true rfl) dX10_alike_44 ⟨Nat.zero_le _, Nat.zero_le _⟩ (fun H locs hH => ?_)
          have hH : gm_H (dC, dI) A s (wX10_alike cI q q_now q_now_alikeTo q_draft q_images q_kinds q_text q_duel q_cover q_clashes q_tally q_sayableByPair q_chosenPairs q_now_ending q_now_meaning q_now_cost q_now_kind q_now_want q_now_saidAhead q_now_heardWord q_now_heardAnswer m_imagesKept m_bads m_nos m_fulls m_above m_below m_now_words m_now_people m_now_said m_now_undos m_now_heard m_now_alikeTo) H locs := hH
          refine lv_istore (lv' := [(4, .int o9), (0, .ref q), (1, .int x1), (2, .int x2), (3, .int x3)]) hx hb dX10_alike_47 hl (by decide) rfl (fun ls hl => ?_)
          refine lv_aload_n hx hb dX10_alike_49 rfl (lv_at hl 1 rfl) ?_
          refine gm_get (ci := 10) C0 hH inX10_alike_X10 0 0 1 rfl rfl (by decide) rfl rfl dX10_alike_50 ?_
          refine lv_iload_n hx hb dX10_alike_53 rfl (lv_at hl 2 rfl) ?_
          refine lv_iload_n hx hb dX10_alike_54 rfl (lv_at hl 3 rfl) ?_
          refine lv_iload_n hx hb dX10_alike_55 rfl (lv_at hl 4 rfl) ?_
          refine lv_iconst (v := 1) hx hb dX10_alike_56 (by decide) ?_
          refine lv_icmp_ne (tgt := 64) hx hb dX10_alike_57 (by decide) (fun hc10 => ?_) (fun hc10 => ?_)
          · replace h := gm_neg hc10 h
            refine lv_iconst (v := 0) hx hb dX10_alike_64 (by decide) ?_
            exact tX10_alike_b65 C0  h hH (lv_sub hl [0] rfl)
          · replace h := gm_pos hc10 h
            refine lv_iconst (v := 1) hx hb dX10_alike_60 (by decide) ?_
            refine lv_goto (tgt := 65) hx hb dX10_alike_61 (by decide) ?_
            exact tX10_alike_b65 C0  h hH (lv_sub hl [0] rfl)
        · replace h := gm_pos hc8 h
          exact tX10_alike_b31 C0  h hH (lv_sub hl [0] rfl)
