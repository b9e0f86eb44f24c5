/-! X10_talks -/
abbrev wX10_talks (cI cR : ClassId) (q q_now q_now_ending q_now_meaning q_now_alikeTo q_now_kind q_now_want q_kinds q_kinds_0 q_kinds_1 q_kinds_2 q_kinds_3 q_kinds_4 q_kinds_5 q_draft q_images q_text q_duel q_cover q_clashes q_tally q_sayableByPair q_chosenPairs q_now_cost q_now_saidAhead q_now_heardWord q_now_heardAnswer : Nat) (m_imagesKept : Int32) (m_bads : Int32) (m_nos : Int32) (m_fulls : Int32) (m_above : Int64) (m_below : Int64) (m_now_words : Int32) (m_now_people : Int32) (m_now_said : Int32) (m_now_undos : Int32) (m_now_heard : Int32) (m_now_ending : Nat → Int32) (m_now_meaning : Nat → Int32) (m_now_alikeTo : Nat → Int32) (m_now_kind : Nat → Int32) (m_now_want : Nat → Int32) : va_W := [(q, .inr (10, [.ref q_now, .ref q_draft, .ref q_images, .int m_imagesKept, .ref q_kinds, .ref q_text, .ref q_duel, .ref q_cover, .int m_bads, .int m_nos, .int m_fulls, .long m_above, .long m_below, .ref q_clashes, .ref q_tally, .ref q_sayableByPair, .ref q_chosenPairs])), (q_now, .inr (9, [.ref q_now_ending, .ref q_now_meaning, .ref q_now_cost, .int m_now_words, .ref q_now_alikeTo, .ref q_now_kind, .ref q_now_want, .int m_now_people, .int m_now_said, .ref q_now_saidAhead, .int m_now_undos, .ref q_now_heardWord, .ref q_now_heardAnswer, .int m_now_heard])), (q_now_ending, .inl (cI, 10, .inl m_now_ending)), (q_now_meaning, .inl (cI, 10, .inl m_now_meaning)), (q_now_alikeTo, .inl (cI, 8, .inl m_now_alikeTo)), (q_now_kind, .inl (cI, 5, .inl m_now_kind)), (q_now_want, .inl (cI, 5, .inl m_now_want)), (q_kinds, .inl (cR, 6, .inr (.inr (.inr (.inr (gm_kd q_kinds_0 q_kinds_1 q_kinds_2 q_kinds_3 q_kinds_4 q_kinds_5)))))), (q_kinds_0, .inr (7, [])), (q_kinds_1, .inr (4, [])), (q_kinds_2, .inr (3, [])), (q_kinds_3, .inr (8, [])), (q_kinds_4, .inr (5, [])), (q_kinds_5, .inr (0, []))]
abbrev rX10_talks : Room := { frames := 4, cells := 0, slots := 0, locals := 93 }
def fX10_talks_b18 (N : Nat)  (m_bads : Int32) (m_nos : Int32) (m_fulls : Int32) : Option (Int32 × Int32 × Int32 × Int32) := gm_bind (fX10_refuse N m_bads m_nos m_fulls ((-2))) (fun o3 => some (o3.1, o3.2.1, o3.2.2.1, o3.2.2.2))
def fX10_talks_b200 (N : Nat) (r65 : Int64 → Int32 → Int32 → Int32 → Option (Int32 × Int32 × Int32 × Int32)) (m_bads : Int32) (m_nos : Int32) (m_fulls : Int32) (m_now_words : Int32) (m_now_people : Int32) (m_now_ending : Nat → Int32) (m_now_meaning : Nat → Int32) (m_now_alikeTo : Nat → Int32) (m_now_kind : Nat → Int32) (m_now_want : Nat → Int32) (x2 : Int32) (x3 : Int64) (x5 : Int32) (x6 : Int32) (x7 : Int32) : Option (Int32 × Int32 × Int32 × Int32) := (r65 x3 x5 x6 ((x7 + 1)))
def fX10_talks_b65_body (N : Nat)  (m_bads : Int32) (m_nos : Int32) (m_fulls : Int32) (m_now_words : Int32) (m_now_people : Int32) (m_now_ending : Nat → Int32) (m_now_meaning : Nat → Int32) (m_now_alikeTo : Nat → Int32) (m_now_kind : Nat → Int32) (m_now_want : Nat → Int32) (x2 : Int32) (r65 : Int64 → Int32 → Int32 → Int32 → Option (Int32 × Int32 × Int32 × Int32)) (x3 : Int64) (x5 : Int32) (x6 : Int32) (x7 : Int32) : Option (Int32 × Int32 × Int32 × Int32) := (if x2 ≤ x7 then some (x6, m_bads, m_nos, m_fulls) else gm_nzL 2147483648 (gm_let ((((x3 * 1103515245) + 12345) - ((x3 * 1103515245) + 12345) / 2147483648 * 2147483648) : Int64) (fun (v11 : Int64) => gm_nzL 65536 (gm_nzL (Int32.toInt64 m_now_words) (gm_let ((Int64.toInt32 ((v11 / 65536) - (v11 / 65536) / (Int32.toInt64 m_now_words) * (Int32.toInt64 m_now_words))) : Int32) (fun (v14 : Int32) => gm_nz m_now_people (gm_let ((x7 - x7 / m_now_people * m_now_people) : Int32) (fun (v16 : Int32) => gm_chk v16 5 (gm_chk ((m_now_kind (Int32.toNatClampNeg v16))) 6 (gm_chk v16 5 (gm_bind (fKD N ((m_now_kind (Int32.toNatClampNeg v16))) m_now_words m_now_ending m_now_meaning m_now_alikeTo ((m_now_want (Int32.toNatClampNeg v16))) v14) (fun o20 => gm_chk v16 5 (gm_bind (fX9_firstOf N m_now_words m_now_meaning ((o20 &&& (x5 ^^^ (-1)))) ((m_now_want (Int32.toNatClampNeg v16)))) (fun o22 => (if o22 = (-1) then (fX10_talks_b200 N r65 m_bads m_nos m_fulls m_now_words m_now_people m_now_ending m_now_meaning m_now_alikeTo m_now_kind m_now_want x2 v11 0 x6 x7) else gm_let ((x5 ||| ((1 : Int32) <<< (o22 &&& 31))) : Int32) (fun (v24 : Int32) => (fX10_talks_b200 N r65 m_bads m_nos m_fulls m_now_words m_now_people m_now_ending m_now_meaning m_now_alikeTo m_now_kind m_now_want x2 v11 v24 ((x6 + 1)) x7)))))))))))))))))
def fX10_talks_b65 (N : Nat)  (m_bads : Int32) (m_nos : Int32) (m_fulls : Int32) (m_now_words : Int32) (m_now_people : Int32) (m_now_ending : Nat → Int32) (m_now_meaning : Nat → Int32) (m_now_alikeTo : Nat → Int32) (m_now_kind : Nat → Int32) (m_now_want : Nat → Int32) (x2 : Int32) (x3 : Int64) (x5 : Int32) (x6 : Int32) (x7 : Int32) : Option (Int32 × Int32 × Int32 × Int32) := gm_fix (fX10_talks_b65_body N  m_bads m_nos m_fulls m_now_words m_now_people m_now_ending m_now_meaning m_now_alikeTo m_now_kind m_now_want x2) (fun _ _ _ _ => none) N x3 x5 x6 x7
def fX10_talks (N : Nat) (m_bads : Int32) (m_nos : Int32) (m_fulls : Int32) (m_now_words : Int32) (m_now_people : Int32) (m_now_said : Int32) (m_now_ending : Nat → Int32) (m_now_meaning : Nat → Int32) (m_now_alikeTo : Nat → Int32) (m_now_kind : Nat → Int32) (m_now_want : Nat → Int32) (x1 : Int32) (x2 : Int32) : Option (Int32 × Int32 × Int32 × Int32) := gm_bind (fX10_fits N x1 1000000) (fun o1 => (if o1 = 0 then (fX10_talks_b18 N  m_bads m_nos m_fulls) else gm_bind (fX10_fits N x2 61) (fun o4 => (if o4 = 0 then (fX10_talks_b18 N  m_bads m_nos m_fulls) else (if m_now_words = 0 then some ((-1), m_bads, m_nos, m_fulls) else (if m_now_people = 0 then some ((-1), m_bads, m_nos, m_fulls) else gm_let ((Int32.toInt64 x1) : Int64) (fun (v8 : Int64) => (fX10_talks_b65 N  m_bads m_nos m_fulls m_now_words m_now_people m_now_ending m_now_meaning m_now_alikeTo m_now_kind m_now_want x2 v8 m_now_said 0 0))))))))
set_option maxRecDepth 20000 in
theorem inX10_talks_X10 : ∀ w ∈ u_ws RX10 TX10 17, w ∈ wsX10_talks := fun w h => by
  obtain ⟨k, hk, rfl⟩ := List.mem_map.mp h
  have hk2 := List.mem_range.mp hk
  exact List.mem_of_getElem? (i := 86 + k) (by rcases (show k = 0 ∨ k = 1 ∨ k = 2 ∨ k = 3 ∨ k = 4 ∨ k = 5 ∨ k = 6 ∨ k = 7 ∨ k = 8 ∨ k = 9 ∨ k = 10 ∨ k = 11 ∨ k = 12 ∨ k = 13 ∨ k = 14 ∨ k = 15 ∨ k = 16 by omega) with rfl | rfl | rfl | rfl | rfl | rfl | rfl | rfl | rfl | rfl | rfl | rfl | rfl | rfl | rfl | rfl | rfl <;> rfl)
set_option maxRecDepth 20000 in
theorem inX10_talks_X9 : ∀ w ∈ u_ws RX9 TX9 14, w ∈ wsX10_talks := fun w h => by
  obtain ⟨k, hk, rfl⟩ := List.mem_map.mp h
  have hk2 := List.mem_range.mp hk
  exact List.mem_of_getElem? (i := 103 + k) (by rcases (show k = 0 ∨ k = 1 ∨ k = 2 ∨ k = 3 ∨ k = 4 ∨ k = 5 ∨ k = 6 ∨ k = 7 ∨ k = 8 ∨ k = 9 ∨ k = 10 ∨ k = 11 ∨ k = 12 ∨ k = 13 by omega) with rfl | rfl | rfl | rfl | rfl | rfl | rfl | rfl | rfl | rfl | rfl | rfl | rfl | rfl <;> rfl)
set_option maxRecDepth 100000 in
set_option maxHeartbeats 4000000 in
theorem tX10_talks_b18 {p : Program} {l : Launch} {e : Env} {s : State} {m : MethodId} {args : Array Value} {below : List Frame} {meth : Method} {c : Code} {A : Nat → Prop} {dC : Nat → ClassId} {dI : Nat → Nat → Nat} {cI cR : ClassId} {q q_now q_now_ending q_now_meaning q_now_alikeTo q_now_kind q_now_want q_kinds q_kinds_0 q_kinds_1 q_kinds_2 q_kinds_3 q_kinds_4 q_kinds_5 q_draft q_images q_text q_duel q_cover q_clashes q_tally q_sayableByPair q_chosenPairs q_now_cost q_now_saidAhead q_now_heardWord q_now_heardAnswer : Nat} {m_imagesKept : Int32} {m_bads : Int32} {m_nos : Int32} {m_fulls : Int32} {m_above : Int64} {m_below : Int64} {m_now_words : Int32} {m_now_people : Int32} {m_now_said : Int32} {m_now_undos : Int32} {m_now_heard : Int32} {m_now_ending : Nat → Int32} {m_now_meaning : Nat → Int32} {m_now_alikeTo : Nat → Int32} {m_now_kind : Nat → Int32} {m_now_want : Nat → Int32} (C0 : gm_C p s m args meth c (dC, dI) [(cI, .int), (cR, .object "OnlyRhymes$Rhymer")] A gm_T RX10 cX10_talks 12 (some .int) wsX10_talks) {N : Nat} {out : Int32 × Int32 × Int32 × Int32}    {H : Heap} {locs : List Loc} {ls : Array Slot} (h : fX10_talks_b18 N  m_bads m_nos m_fulls = some out) (hH : gm_H (dC, dI) A s (wX10_talks cI cR q q_now q_now_ending q_now_meaning q_now_alikeTo q_now_kind q_now_want q_kinds q_kinds_0 q_kinds_1 q_kinds_2 q_kinds_3 q_kinds_4 q_kinds_5 q_draft q_images q_text q_duel q_cover q_clashes q_tally q_sayableByPair q_chosenPairs q_now_cost q_now_saidAhead q_now_heardWord q_now_heardAnswer m_imagesKept m_bads m_nos m_fulls m_above m_below m_now_words m_now_people m_now_said m_now_undos m_now_heard m_now_ending m_now_meaning m_now_alikeTo m_now_kind m_now_want) H locs) (hl : lv_has ls 12 [(0, .ref q)]) : W p l e rX10_talks s m args below meth c H locs 0 0 (MQ below (gm_Q (dC, dI) [(cI, .int), (cR, .object "OnlyRhymes$Rhymer")] A (some (.int out.1)) (wX10_talks cI cR q q_now q_now_ending q_now_meaning q_now_alikeTo q_now_kind q_now_want q_kinds q_kinds_0 q_kinds_1 q_kinds_2 q_kinds_3 q_kinds_4 q_kinds_5 q_draft q_images q_text q_duel q_cover q_clashes q_tally q_sayableByPair q_chosenPairs q_now_cost q_now_saidAhead q_now_heardWord q_now_heardAnswer m_imagesKept out.2.1 out.2.2.1 out.2.2.2 m_above m_below m_now_words m_now_people m_now_said m_now_undos m_now_heard m_now_ending m_now_meaning m_now_alikeTo m_now_kind m_now_want)) args s 0 0 A) (F0 m 18 ls []) := by
  obtain ⟨hx, hb, hml, hr, hown, hts, hA, hK, hX, hlocks⟩ := id C0
  unfold fX10_talks_b18 at h
  refine lv_aload_n hx hb dX10_talks_18 rfl (lv_at hl 0 rfl) ?_
  refine lv_bipush (v := (-2)) hx hb dX10_talks_19 (by decide) ?_
  obtain ⟨o3, ho3, h⟩ := gm_bind_e h
  refine gm_callV (As := [.int (-2)]) (rest := []) (n := 1) (ci := 10) (q0 := 0) C0 hH (mX10_refuse l dC dI  q q_now q_draft q_images q_kinds q_text q_duel q_cover q_clashes q_tally q_sayableByPair q_chosenPairs m_imagesKept m_bads m_nos m_fulls m_above m_below ((-2))   ho3) gX10_talks_X10_refuse rfl (by decide +kernel) ⟨rfl, rfl, Nat.le_of_ble_eq_true rfl, Nat.le_of_ble_eq_true rfl⟩ gm_T_ok (fun _ => trivial) [0] rfl rfl rfl [] rfl rfl rfl rfl hl.1 rfl (Nat.le_of_ble_eq_true rfl) dX10_talks_21 ⟨Nat.zero_le _, Nat.zero_le _⟩ (fun H locs hH => ?_)
  have hH : gm_H (dC, dI) A s (wX10_talks cI cR q q_now q_now_ending q_now_meaning q_now_alikeTo q_now_kind q_now_want q_kinds q_kinds_0 q_kinds_1 q_kinds_2 q_kinds_3 q_kinds_4 q_kinds_5 q_draft q_images q_text q_duel q_cover q_clashes q_tally q_sayableByPair q_chosenPairs q_now_cost q_now_saidAhead q_now_heardWord q_now_heardAnswer m_imagesKept o3.2.1 o3.2.2.1 o3.2.2.2 m_above m_below m_now_words m_now_people m_now_said m_now_undos m_now_heard m_now_ending m_now_meaning m_now_alikeTo m_now_kind m_now_want) H locs := hH
  obtain rfl := Option.some.inj h
  exact gm_iret C0 hH dX10_talks_24
set_option maxRecDepth 100000 in
set_option maxHeartbeats 4000000 in
theorem tX10_talks_b200 {p : Program} {l : Launch} {e : Env} {s : State} {m : MethodId} {args : Array Value} {below : List Frame} {meth : Method} {c : Code} {A : Nat → Prop} {dC : Nat → ClassId} {dI : Nat → Nat → Nat} {cI cR : ClassId} {q q_now q_now_ending q_now_meaning q_now_alikeTo q_now_kind q_now_want q_kinds q_kinds_0 q_kinds_1 q_kinds_2 q_kinds_3 q_kinds_4 q_kinds_5 q_draft q_images q_text q_duel q_cover q_clashes q_tally q_sayableByPair q_chosenPairs q_now_cost q_now_saidAhead q_now_heardWord q_now_heardAnswer : Nat} {m_imagesKept : Int32} {m_bads : Int32} {m_nos : Int32} {m_fulls : Int32} {m_above : Int64} {m_below : Int64} {m_now_words : Int32} {m_now_people : Int32} {m_now_said : Int32} {m_now_undos : Int32} {m_now_heard : Int32} {m_now_ending : Nat → Int32} {m_now_meaning : Nat → Int32} {m_now_alikeTo : Nat → Int32} {m_now_kind : Nat → Int32} {m_now_want : Nat → Int32} {x2 : Int32} {x3 : Int64} {x5 : Int32} {x6 : Int32} {x7 : Int32} (C0 : gm_C p s m args meth c (dC, dI) [(cI, .int), (cR, .object "OnlyRhymes$Rhymer")] A gm_T RX10 cX10_talks 12 (some .int) wsX10_talks) {N : Nat} {out : Int32 × Int32 × Int32 × Int32} {r65 : Int64 → Int32 → Int32 → Int32 → Option (Int32 × Int32 × Int32 × Int32)} (hr65 : ∀ (x3 : Int64) (x5 : Int32) (x6 : Int32) (x7 : Int32) (H : Heap) (locs : List Loc) (ls : Array Slot), r65 x3 x5 x6 x7 = some out → gm_H (dC, dI) A s (wX10_talks cI cR q q_now q_now_ending q_now_meaning q_now_alikeTo q_now_kind q_now_want q_kinds q_kinds_0 q_kinds_1 q_kinds_2 q_kinds_3 q_kinds_4 q_kinds_5 q_draft q_images q_text q_duel q_cover q_clashes q_tally q_sayableByPair q_chosenPairs q_now_cost q_now_saidAhead q_now_heardWord q_now_heardAnswer m_imagesKept m_bads m_nos m_fulls m_above m_below m_now_words m_now_people m_now_said m_now_undos m_now_heard m_now_ending m_now_meaning m_now_alikeTo m_now_kind m_now_want) H locs → lv_has ls 12 [(0, .ref q), (2, .int x2), (3, .long x3), (5, .int x5), (6, .int x6), (7, .int x7)] → W p l e rX10_talks s m args below meth c H locs 0 0 (MQ below (gm_Q (dC, dI) [(cI, .int), (cR, .object "OnlyRhymes$Rhymer")] A (some (.int out.1)) (wX10_talks cI cR q q_now q_now_ending q_now_meaning q_now_alikeTo q_now_kind q_now_want q_kinds q_kinds_0 q_kinds_1 q_kinds_2 q_kinds_3 q_kinds_4 q_kinds_5 q_draft q_images q_text q_duel q_cover q_clashes q_tally q_sayableByPair q_chosenPairs q_now_cost q_now_saidAhead q_now_heardWord q_now_heardAnswer m_imagesKept out.2.1 out.2.2.1 out.2.2.2 m_above m_below m_now_words m_now_people m_now_said m_now_undos m_now_heard m_now_ending m_now_meaning m_now_alikeTo m_now_kind m_now_want)) args s 0 0 A) (F0 m 65 ls []))   {H : Heap} {locs : List Loc} {ls : Array Slot} (h : fX10_talks_b200 N r65 m_bads m_nos m_fulls m_now_words m_now_people m_now_ending m_now_meaning m_now_alikeTo m_now_kind m_now_want x2 x3 x5 x6 x7 = some out) (hH : gm_H (dC, dI) A s (wX10_talks cI cR q q_now q_now_ending q_now_meaning q_now_alikeTo q_now_kind q_now_want q_kinds q_kinds_0 q_kinds_1 q_kinds_2 q_kinds_3 q_kinds_4 q_kinds_5 q_draft q_images q_text q_duel q_cover q_clashes q_tally q_sayableByPair q_chosenPairs q_now_cost q_now_saidAhead q_now_heardWord q_now_heardAnswer m_imagesKept m_bads m_nos m_fulls m_above m_below m_now_words m_now_people m_now_said m_now_undos m_now_heard m_now_ending m_now_meaning m_now_alikeTo m_now_kind m_now_want) H locs) (hl : lv_has ls 12 [(0, .ref q), (2, .int x2), (3, .long x3), (5, .int x5), (6, .int x6), (7, .int x7)]) : W p l e rX10_talks s m args below meth c H locs 0 0 (MQ below (gm_Q (dC, dI) [(cI, .int), (cR, .object "OnlyRhymes$Rhymer")] A (some (.int out.1)) (wX10_talks cI cR q q_now q_now_ending q_now_meaning q_now_alikeTo q_now_kind q_now_want q_kinds q_kinds_0 q_kinds_1 q_kinds_2 q_kinds_3 q_kinds_4 q_kinds_5 q_draft q_images q_text q_duel q_cover q_clashes q_tally q_sayableByPair q_chosenPairs q_now_cost q_now_saidAhead q_now_heardWord q_now_heardAnswer m_imagesKept out.2.1 out.2.2.1 out.2.2.2 m_above m_below m_now_words m_now_people m_now_said m_now_undos m_now_heard m_now_ending m_now_meaning m_now_alikeTo m_now_kind m_now_want)) args s 0 0 A) (F0 m 200 ls []) := by
  obtain ⟨hx, hb, hml, hr, hown, hts, hA, hK, hX, hlocks⟩ := id C0
  unfold fX10_talks_b200 at h
  refine lv_iinc (v := (x7 + 1)) (lv' := [(7, .int (x7 + 1)), (0, .ref q), (2, .int x2), (3, .long x3), (5, .int x5), (6, .int x6)]) hx hb dX10_talks_200 hl (k := 5) rfl rfl (by decide) rfl (fun ls hl => ?_)
  refine lv_goto (tgt := 65) hx hb dX10_talks_203 (by decide) ?_
  exact hr65 _ _ _ _ _ _ _ h hH (lv_sub hl [1, 2, 3, 4, 5, 0] rfl)
set_option maxRecDepth 100000 in
set_option maxHeartbeats 4000000 in
theorem tX10_talks_b65 {p : Program} {l : Launch} {e : Env} {s : State} {m : MethodId} {args : Array Value} {below : List Frame} {meth : Method} {c : Code} {A : Nat → Prop} {dC : Nat → ClassId} {dI : Nat → Nat → Nat} {cI cR : ClassId} {q q_now q_now_ending q_now_meaning q_now_alikeTo q_now_kind q_now_want q_kinds q_kinds_0 q_kinds_1 q_kinds_2 q_kinds_3 q_kinds_4 q_kinds_5 q_draft q_images q_text q_duel q_cover q_clashes q_tally q_sayableByPair q_chosenPairs q_now_cost q_now_saidAhead q_now_heardWord q_now_heardAnswer : Nat} {m_imagesKept : Int32} {m_bads : Int32} {m_nos : Int32} {m_fulls : Int32} {m_above : Int64} {m_below : Int64} {m_now_words : Int32} {m_now_people : Int32} {m_now_said : Int32} {m_now_undos : Int32} {m_now_heard : Int32} {m_now_ending : Nat → Int32} {m_now_meaning : Nat → Int32} {m_now_alikeTo : Nat → Int32} {m_now_kind : Nat → Int32} {m_now_want : Nat → Int32} {x2 : Int32} (C0 : gm_C p s m args meth c (dC, dI) [(cI, .int), (cR, .object "OnlyRhymes$Rhymer")] A gm_T RX10 cX10_talks 12 (some .int) wsX10_talks) {N : Nat} {out : Int32 × Int32 × Int32 × Int32}   : ∀ (n : Nat), ∀ (x3 : Int64) (x5 : Int32) (x6 : Int32) (x7 : Int32) (H : Heap) (locs : List Loc) (ls : Array Slot), (gm_fix (fX10_talks_b65_body N  m_bads m_nos m_fulls m_now_words m_now_people m_now_ending m_now_meaning m_now_alikeTo m_now_kind m_now_want x2) (fun _ _ _ _ => none) n) x3 x5 x6 x7 = some out → gm_H (dC, dI) A s (wX10_talks cI cR q q_now q_now_ending q_now_meaning q_now_alikeTo q_now_kind q_now_want q_kinds q_kinds_0 q_kinds_1 q_kinds_2 q_kinds_3 q_kinds_4 q_kinds_5 q_draft q_images q_text q_duel q_cover q_clashes q_tally q_sayableByPair q_chosenPairs q_now_cost q_now_saidAhead q_now_heardWord q_now_heardAnswer m_imagesKept m_bads m_nos m_fulls m_above m_below m_now_words m_now_people m_now_said m_now_undos m_now_heard m_now_ending m_now_meaning m_now_alikeTo m_now_kind m_now_want) H locs → lv_has ls 12 [(0, .ref q), (2, .int x2), (3, .long x3), (5, .int x5), (6, .int x6), (7, .int x7)] → W p l e rX10_talks s m args below meth c H locs 0 0 (MQ below (gm_Q (dC, dI) [(cI, .int), (cR, .object "OnlyRhymes$Rhymer")] A (some (.int out.1)) (wX10_talks cI cR q q_now q_now_ending q_now_meaning q_now_alikeTo q_now_kind q_now_want q_kinds q_kinds_0 q_kinds_1 q_kinds_2 q_kinds_3 q_kinds_4 q_kinds_5 q_draft q_images q_text q_duel q_cover q_clashes q_tally q_sayableByPair q_chosenPairs q_now_cost q_now_saidAhead q_now_heardWord q_now_heardAnswer m_imagesKept out.2.1 out.2.2.1 out.2.2.2 m_above m_below m_now_words m_now_people m_now_said m_now_undos m_now_heard m_now_ending m_now_meaning m_now_alikeTo m_now_kind m_now_want)) args s 0 0 A) (F0 m 65 ls []) := by
  obtain ⟨hx, hb, hml, hr, hown, hts, hA, hK, hX, hlocks⟩ := id C0
  intro n
  induction n with
  | zero =>
    intro x3 x5 x6 x7 H locs ls h hH hl
    cases h
  | succ n hr65 =>
    intro x3 x5 x6 x7 H locs ls h hH hl
    rw [gm_fix_s] at h
    unfold fX10_talks_b65_body at h
    refine lv_iload hx hb dX10_talks_65 (lv_at hl 5 rfl) ?_
    refine lv_iload_n hx hb dX10_talks_67 rfl (lv_at hl 1 rfl) ?_
    refine lv_icmp_ge (tgt := 206) hx hb dX10_talks_68 (by decide) (fun hc9 => ?_) (fun hc9 => ?_)
    · replace h := gm_pos hc9 h
      refine lv_iload hx hb dX10_talks_206 (lv_at hl 4 rfl) ?_
      obtain rfl := Option.some.inj h
      exact gm_iret C0 hH dX10_talks_208
    · replace h := gm_neg hc9 h
      refine lv_lload_n hx hb dX10_talks_71 rfl (lv_at hl 2 rfl) ?_
      refine lv_ldc2 (own := RX10) (v := 1103515245) hx hb hown (gm_at C0 6 rfl) dX10_talks_72 ?_
      refine lv_lmul hx hb dX10_talks_75 ?_
      refine lv_ldc2 (own := RX10) (v := 12345) hx hb hown (gm_at C0 7 rfl) dX10_talks_76 ?_
      refine lv_ladd hx hb dX10_talks_79 ?_
      refine lv_ldc2 (own := RX10) (v := 2147483648) hx hb hown (gm_at C0 8 rfl) dX10_talks_80 ?_
      obtain ⟨hz10, h⟩ := gm_nzL_e h
      refine lv_lrem hx hb dX10_talks_83 hz10 ?_
      refine lv_topl (fun v11 ev11 => ?_)
      replace h := gm_let_e ev11 h
      refine lv_lstore_n (lv' := [(3, .long v11), (0, .ref q), (2, .int x2), (5, .int x5), (6, .int x6), (7, .int x7)]) hx hb dX10_talks_84 rfl hl (by decide) rfl (fun ls hl => ?_)
      refine lv_lload_n hx hb dX10_talks_85 rfl (lv_at hl 0 rfl) ?_
      refine lv_ldc2 (own := RX10) (v := 65536) hx hb hown (gm_at C0 9 rfl) dX10_talks_86 ?_
      obtain ⟨hz12, h⟩ := gm_nzL_e h
      refine lv_ldiv hx hb dX10_talks_89 hz12 ?_
      refine lv_aload_n hx hb dX10_talks_90 rfl (lv_at hl 1 rfl) ?_
      refine gm_get (ci := 10) C0 hH inX10_talks_X10 0 0 2 rfl rfl (by decide) rfl rfl dX10_talks_91 ?_
      refine gm_get (ci := 9) C0 hH inX10_talks_X9 1 3 3 rfl rfl (by decide) rfl rfl dX10_talks_94 ?_
      refine lv_i2l hx hb dX10_talks_97 rfl ?_
      obtain ⟨hz13, h⟩ := gm_nzL_e h
      refine lv_lrem hx hb dX10_talks_98 hz13 ?_
      refine lv_l2i hx hb dX10_talks_99 rfl ?_
      refine lv_topi (fun v14 ev14 => ?_)
      replace h := gm_let_e ev14 h
      refine lv_istore (lv' := [(8, .int v14), (3, .long v11), (0, .ref q), (2, .int x2), (5, .int x5), (6, .int x6), (7, .int x7)]) hx hb dX10_talks_100 hl (by decide) rfl (fun ls hl => ?_)
      refine lv_iload hx hb dX10_talks_102 (lv_at hl 6 rfl) ?_
      refine lv_aload_n hx hb dX10_talks_104 rfl (lv_at hl 2 rfl) ?_
      refine gm_get (ci := 10) C0 hH inX10_talks_X10 0 0 2 rfl rfl (by decide) rfl rfl dX10_talks_105 ?_
      refine gm_get (ci := 9) C0 hH inX10_talks_X9 1 7 4 rfl rfl (by decide) rfl rfl dX10_talks_108 ?_
      obtain ⟨hz15, h⟩ := gm_nz_e h
      refine lv_irem hx hb dX10_talks_111 hz15 ?_
      refine lv_topi (fun v16 ev16 => ?_)
      replace h := gm_let_e ev16 h
      refine lv_istore (lv' := [(9, .int v16), (8, .int v14), (3, .long v11), (0, .ref q), (2, .int x2), (5, .int x5), (6, .int x6), (7, .int x7)]) hx hb dX10_talks_112 hl (by decide) rfl (fun ls hl => ?_)
      refine lv_aload_n hx hb dX10_talks_114 rfl (lv_at hl 3 rfl) ?_
      refine gm_get (ci := 10) C0 hH inX10_talks_X10 0 4 10 rfl rfl (by decide) rfl rfl dX10_talks_115 ?_
      refine lv_aload_n hx hb dX10_talks_118 rfl (lv_at hl 3 rfl) ?_
      refine gm_get (ci := 10) C0 hH inX10_talks_X10 0 0 2 rfl rfl (by decide) rfl rfl dX10_talks_119 ?_
      refine gm_get (ci := 9) C0 hH inX10_talks_X9 1 5 11 rfl rfl (by decide) rfl rfl dX10_talks_122 ?_
      refine lv_iload hx hb dX10_talks_125 (lv_at hl 0 rfl) ?_
      obtain ⟨hi17, h⟩ := gm_chk_e h
      refine gm_iald C0 hH hi17 5 0 rfl rfl dX10_talks_127 ?_
      obtain ⟨hi18, h⟩ := gm_chk_e h
      refine gm_aldq C0 hH hi18 7 1 rfl rfl dX10_talks_128 ?_
      refine W.eq (g2 := F0 m 129 ls [.ref (gm_kf q_kinds_0 q_kinds_1 q_kinds_2 q_kinds_3 q_kinds_4 q_kinds_5 (Int32.toNatClampNeg ((m_now_kind (Int32.toNatClampNeg v16)))))]) (congrArg (fun v => F0 m 129 ls (v :: [])) (gm_kf_eq hi18)) ?_
      refine lv_aload_n hx hb dX10_talks_129 rfl (lv_at hl 3 rfl) ?_
      refine gm_get (ci := 10) C0 hH inX10_talks_X10 0 0 2 rfl rfl (by decide) rfl rfl dX10_talks_130 ?_
      refine lv_aload_n hx hb dX10_talks_133 rfl (lv_at hl 3 rfl) ?_
      refine gm_get (ci := 10) C0 hH inX10_talks_X10 0 0 2 rfl rfl (by decide) rfl rfl dX10_talks_134 ?_
      refine gm_get (ci := 9) C0 hH inX10_talks_X9 1 6 12 rfl rfl (by decide) rfl rfl dX10_talks_137 ?_
      refine lv_iload hx hb dX10_talks_140 (lv_at hl 0 rfl) ?_
      obtain ⟨hi19, h⟩ := gm_chk_e h
      refine gm_iald C0 hH hi19 6 0 rfl rfl dX10_talks_142 ?_
      refine lv_iload hx hb dX10_talks_143 (lv_at hl 1 rfl) ?_
      obtain ⟨o20, ho20, h⟩ := gm_bind_e h
      have kk : ∀ (H : Heap) (locs : List Loc), gm_H (dC, dI) A s (wX10_talks cI cR q q_now q_now_ending q_now_meaning q_now_alikeTo q_now_kind q_now_want q_kinds q_kinds_0 q_kinds_1 q_kinds_2 q_kinds_3 q_kinds_4 q_kinds_5 q_draft q_images q_text q_duel q_cover q_clashes q_tally q_sayableByPair q_chosenPairs q_now_cost q_now_saidAhead q_now_heardWord q_now_heardAnswer m_imagesKept m_bads m_nos m_fulls m_above m_below m_now_words m_now_people m_now_said m_now_undos m_now_heard m_now_ending m_now_meaning m_now_alikeTo m_now_kind m_now_want) H locs → W p l e rX10_talks s m args below meth c H locs 0 0 (MQ below (gm_Q (dC, dI) [(cI, .int), (cR, .object "OnlyRhymes$Rhymer")] A (some (.int out.1)) (wX10_talks cI cR q q_now q_now_ending q_now_meaning q_now_alikeTo q_now_kind q_now_want q_kinds q_kinds_0 q_kinds_1 q_kinds_2 q_kinds_3 q_kinds_4 q_kinds_5 q_draft q_images q_text q_duel q_cover q_clashes q_tally q_sayableByPair q_chosenPairs q_now_cost q_now_saidAhead q_now_heardWord q_now_heardAnswer m_imagesKept out.2.1 out.2.2.1 out.2.2.2 m_above m_below m_now_words m_now_people m_now_said m_now_undos m_now_heard m_now_ending m_now_meaning m_now_alikeTo m_now_kind m_now_want)) args s 0 0 A) (F0 m 148 ls [.int o20]) := by
        intro H locs hH
        refine lv_istore (lv' := [(10, .int o20), (9, .int v16), (8, .int v14), (3, .long v11), (0, .ref q), (2, .int x2), (5, .int x5), (6, .int x6), (7, .int x7)]) hx hb dX10_talks_148 hl (by decide) rfl (fun ls hl => ?_)
        refine lv_aload_n hx hb dX10_talks_150 rfl (lv_at hl 4 rfl) ?_
        refine gm_get (ci := 10) C0 hH inX10_talks_X10 0 0 2 rfl rfl (by decide) rfl rfl dX10_talks_151 ?_
        refine lv_iload hx hb dX10_talks_154 (lv_at hl 0 rfl) ?_
        refine lv_iload hx hb dX10_talks_156 (lv_at hl 6 rfl) ?_
        refine lv_iconst (v := (-1)) hx hb dX10_talks_158 (by decide) ?_
        refine lv_ixor hx hb dX10_talks_159 ?_
        refine lv_iand hx hb dX10_talks_160 ?_
        refine lv_aload_n hx hb dX10_talks_161 rfl (lv_at hl 4 rfl) ?_
        refine gm_get (ci := 10) C0 hH inX10_talks_X10 0 0 2 rfl rfl (by decide) rfl rfl dX10_talks_162 ?_
        refine gm_get (ci := 9) C0 hH inX10_talks_X9 1 6 12 rfl rfl (by decide) rfl rfl dX10_talks_165 ?_
        refine lv_iload hx hb dX10_talks_168 (lv_at hl 1 rfl) ?_
        obtain ⟨hi21, h⟩ := gm_chk_e h
        refine gm_iald C0 hH hi21 6 0 rfl rfl dX10_talks_170 ?_
        obtain ⟨o22, ho22, h⟩ := gm_bind_e h
        refine gm_callV (As := [.int (o20 &&& (x5 ^^^ (-1))), .int (m_now_want (Int32.toNatClampNeg v16))]) (rest := []) (n := 2) (ci := 9) (q0 := 1) C0 hH (mX9_firstOf l dC dI cI q_now q_now_meaning q_now_ending q_now_cost q_now_alikeTo q_now_kind q_now_want q_now_saidAhead q_now_heardWord q_now_heardAnswer m_now_words m_now_people m_now_said m_now_undos m_now_heard m_now_meaning ((o20 &&& (x5 ^^^ (-1)))) ((m_now_want (Int32.toNatClampNeg v16)))   ho22) gX10_talks_X9_firstOf rfl (by decide +kernel) ⟨rfl, rfl, Nat.le_of_ble_eq_true rfl, Nat.le_of_ble_eq_true rfl⟩ gm_T_ok (fun _ => trivial) [1, 3] rfl rfl rfl [0] rfl rfl rfl rfl hl.1 rfl (Nat.le_of_ble_eq_true rfl) dX10_talks_171 ⟨Nat.zero_le _, Nat.zero_le _⟩ (fun H locs hH => ?_)
        have hH : gm_H (dC, dI) A s (wX10_talks cI cR q q_now q_now_ending q_now_meaning q_now_alikeTo q_now_kind q_now_want q_kinds q_kinds_0 q_kinds_1 q_kinds_2 q_kinds_3 q_kinds_4 q_kinds_5 q_draft q_images q_text q_duel q_cover q_clashes q_tally q_sayableByPair q_chosenPairs q_now_cost q_now_saidAhead q_now_heardWord q_now_heardAnswer m_imagesKept m_bads m_nos m_fulls m_above m_below m_now_words m_now_people m_now_said m_now_undos m_now_heard m_now_ending m_now_meaning m_now_alikeTo m_now_kind m_now_want) H locs := hH
        refine lv_istore (lv' := [(11, .int o22), (10, .int o20), (9, .int v16), (8, .int v14), (3, .long v11), (0, .ref q), (2, .int x2), (5, .int x5), (6, .int x6), (7, .int x7)]) hx hb dX10_talks_174 hl (by decide) rfl (fun ls hl => ?_)
        refine lv_iload hx hb dX10_talks_176 (lv_at hl 0 rfl) ?_
        refine lv_iconst (v := (-1)) hx hb dX10_talks_178 (by decide) ?_
        refine lv_icmp_ne (tgt := 188) hx hb dX10_talks_179 (by decide) (fun hc23 => ?_) (fun hc23 => ?_)
        · replace h := gm_neg hc23 h
          refine lv_iload hx hb dX10_talks_188 (lv_at hl 7 rfl) ?_
          refine lv_iconst (v := 1) hx hb dX10_talks_190 (by decide) ?_
          refine lv_iload hx hb dX10_talks_191 (lv_at hl 0 rfl) ?_
          refine lv_ishl hx hb dX10_talks_193 ?_
          refine lv_ior hx hb dX10_talks_194 ?_
          refine lv_topi (fun v24 ev24 => ?_)
          replace h := gm_let_e ev24 h
          refine lv_istore (lv' := [(5, .int v24), (11, .int o22), (10, .int o20), (9, .int v16), (8, .int v14), (3, .long v11), (0, .ref q), (2, .int x2), (6, .int x6), (7, .int x7)]) hx hb dX10_talks_195 hl (by decide) rfl (fun ls hl => ?_)
          refine lv_iinc (v := (x6 + 1)) (lv' := [(6, .int (x6 + 1)), (5, .int v24), (11, .int o22), (10, .int o20), (9, .int v16), (8, .int v14), (3, .long v11), (0, .ref q), (2, .int x2), (7, .int x7)]) hx hb dX10_talks_197 hl (k := 8) rfl rfl (by decide) rfl (fun ls hl => ?_)
          exact tX10_talks_b200 C0 hr65 h hH (lv_sub hl [7, 8, 6, 1, 0, 9] rfl)
        · replace h := gm_pos hc23 h
          refine lv_iconst (v := 0) hx hb dX10_talks_182 (by decide) ?_
          refine lv_istore (lv' := [(5, .int 0), (11, .int o22), (10, .int o20), (9, .int v16), (8, .int v14), (3, .long v11), (0, .ref q), (2, .int x2), (6, .int x6), (7, .int x7)]) hx hb dX10_talks_183 hl (by decide) rfl (fun ls hl => ?_)
          refine lv_goto (tgt := 200) hx hb dX10_talks_185 (by decide) ?_
          exact tX10_talks_b200 C0 hr65 h hH (lv_sub hl [6, 7, 5, 0, 8, 9] rfl)
      unfold fKD at ho20
      rcases gm_six hi18 with hk | hk | hk | hk | hk | hk
      · rw [if_pos hk] at ho20
        refine W.eq (g2 := F0 m 145 ls [.int v14, .int (m_now_want (Int32.toNatClampNeg v16)), .ref q_now, .ref q_kinds_0]) (by rw [hk]; rfl) ?_
        exact gm_callV (As := [.ref q_now, .int (m_now_want (Int32.toNatClampNeg v16)), .int v14]) (rest := []) (n := 3) (ci := 7) (q0 := 8) C0 hH (mX7_chimes l dC dI cI q_now q_now_ending q_now_meaning q_now_cost q_now_alikeTo q_now_kind q_now_want q_now_saidAhead q_now_heardWord q_now_heardAnswer q_kinds_0 m_now_words m_now_people m_now_said m_now_undos m_now_heard m_now_ending ((m_now_want (Int32.toNatClampNeg v16))) v14  ho20) gX10_talks_X7_chimes rfl (by decide +kernel) ⟨rfl, rfl, Nat.le_of_ble_eq_true rfl, Nat.le_of_ble_eq_true rfl⟩ gm_T_ok (fun _ => trivial) [1, 2] rfl rfl rfl [0] rfl rfl rfl rfl hl.1 rfl (Nat.le_of_ble_eq_true rfl) dX10_talks_145 ⟨Nat.zero_le _, Nat.zero_le _⟩ kk
      · rw [if_neg (show ¬ (m_now_kind (Int32.toNatClampNeg v16)) = 0 by rw [hk]; decide), if_pos hk] at ho20
        refine W.eq (g2 := F0 m 145 ls [.int v14, .int (m_now_want (Int32.toNatClampNeg v16)), .ref q_now, .ref q_kinds_1]) (by rw [hk]; rfl) ?_
        exact gm_callO (As := [.ref q_now, .int (m_now_want (Int32.toNatClampNeg v16)), .int v14]) (rest := []) (n := 3) (ci := 4) (q0 := 9) C0 hH (mX4_chimes l dC dI cI q_kinds_1 q_now q_now_ending q_now_alikeTo q_now_meaning q_now_cost q_now_kind q_now_want q_now_saidAhead q_now_heardWord q_now_heardAnswer m_now_words m_now_people m_now_said m_now_undos m_now_heard m_now_ending m_now_alikeTo ((m_now_want (Int32.toNatClampNeg v16))) v14 4 rfl ho20) gX10_talks_X4_chimes_u179X4 rfl (List.mem_of_getElem? (i := 43) rfl) (by decide +kernel) ⟨rfl, rfl, Nat.le_of_ble_eq_true rfl, Nat.le_of_ble_eq_true rfl⟩ gm_T_ok (fun _ => trivial) [9, 1, 2, 4] rfl rfl rfl [0] rfl rfl rfl rfl hl.1 rfl (Nat.le_of_ble_eq_true rfl) dX10_talks_145 ⟨Nat.zero_le _, Nat.zero_le _⟩ kk
      · rw [if_neg (show ¬ (m_now_kind (Int32.toNatClampNeg v16)) = 0 by rw [hk]; decide), if_neg (show ¬ (m_now_kind (Int32.toNatClampNeg v16)) = 1 by rw [hk]; decide), if_pos hk] at ho20
        refine W.eq (g2 := F0 m 145 ls [.int v14, .int (m_now_want (Int32.toNatClampNeg v16)), .ref q_now, .ref q_kinds_2]) (by rw [hk]; rfl) ?_
        exact gm_callO (As := [.ref q_now, .int (m_now_want (Int32.toNatClampNeg v16)), .int v14]) (rest := []) (n := 3) (ci := 3) (q0 := 10) C0 hH (mX3_chimes l dC dI cI q_kinds_2 q_now q_now_ending q_now_meaning q_now_cost q_now_alikeTo q_now_kind q_now_want q_now_saidAhead q_now_heardWord q_now_heardAnswer m_now_words m_now_people m_now_said m_now_undos m_now_heard m_now_ending ((m_now_want (Int32.toNatClampNeg v16))) v14 3 rfl ho20) gX10_talks_X3_chimes_u179X3 rfl (List.mem_of_getElem? (i := 43) rfl) (by decide +kernel) ⟨rfl, rfl, Nat.le_of_ble_eq_true rfl, Nat.le_of_ble_eq_true rfl⟩ gm_T_ok (fun _ => trivial) [10, 1, 2] rfl rfl rfl [0] rfl rfl rfl rfl hl.1 rfl (Nat.le_of_ble_eq_true rfl) dX10_talks_145 ⟨Nat.zero_le _, Nat.zero_le _⟩ kk
      · rw [if_neg (show ¬ (m_now_kind (Int32.toNatClampNeg v16)) = 0 by rw [hk]; decide), if_neg (show ¬ (m_now_kind (Int32.toNatClampNeg v16)) = 1 by rw [hk]; decide), if_neg (show ¬ (m_now_kind (Int32.toNatClampNeg v16)) = 2 by rw [hk]; decide), if_pos hk] at ho20
        refine W.eq (g2 := F0 m 145 ls [.int v14, .int (m_now_want (Int32.toNatClampNeg v16)), .ref q_now, .ref q_kinds_3]) (by rw [hk]; rfl) ?_
        exact gm_callO (As := [.ref q_now, .int (m_now_want (Int32.toNatClampNeg v16)), .int v14]) (rest := []) (n := 3) (ci := 8) (q0 := 11) C0 hH (mX8_chimes l dC dI cI q_kinds_3 q_now q_now_ending q_now_meaning q_now_cost q_now_alikeTo q_now_kind q_now_want q_now_saidAhead q_now_heardWord q_now_heardAnswer m_now_words m_now_people m_now_said m_now_undos m_now_heard m_now_ending ((m_now_want (Int32.toNatClampNeg v16))) v14 8 rfl ho20) gX10_talks_X8_chimes_u179X8 rfl (List.mem_of_getElem? (i := 43) rfl) (by decide +kernel) ⟨rfl, rfl, Nat.le_of_ble_eq_true rfl, Nat.le_of_ble_eq_true rfl⟩ gm_T_ok (fun _ => trivial) [11, 1, 2] rfl rfl rfl [0] rfl rfl rfl rfl hl.1 rfl (Nat.le_of_ble_eq_true rfl) dX10_talks_145 ⟨Nat.zero_le _, Nat.zero_le _⟩ kk
      · rw [if_neg (show ¬ (m_now_kind (Int32.toNatClampNeg v16)) = 0 by rw [hk]; decide), if_neg (show ¬ (m_now_kind (Int32.toNatClampNeg v16)) = 1 by rw [hk]; decide), if_neg (show ¬ (m_now_kind (Int32.toNatClampNeg v16)) = 2 by rw [hk]; decide), if_neg (show ¬ (m_now_kind (Int32.toNatClampNeg v16)) = 3 by rw [hk]; decide), if_pos hk] at ho20
        refine W.eq (g2 := F0 m 145 ls [.int v14, .int (m_now_want (Int32.toNatClampNeg v16)), .ref q_now, .ref q_kinds_4]) (by rw [hk]; rfl) ?_
        exact gm_callO (As := [.ref q_now, .int (m_now_want (Int32.toNatClampNeg v16)), .int v14]) (rest := []) (n := 3) (ci := 5) (q0 := 12) C0 hH (mX5_chimes l dC dI cI q_kinds_4 q_now q_now_ending q_now_meaning q_now_alikeTo q_now_cost q_now_kind q_now_want q_now_saidAhead q_now_heardWord q_now_heardAnswer m_now_words m_now_people m_now_said m_now_undos m_now_heard m_now_ending m_now_meaning m_now_alikeTo ((m_now_want (Int32.toNatClampNeg v16))) v14 5 rfl ho20) gX10_talks_X5_chimes_u179X5 rfl (List.mem_of_getElem? (i := 43) rfl) (by decide +kernel) ⟨rfl, rfl, Nat.le_of_ble_eq_true rfl, Nat.le_of_ble_eq_true rfl⟩ gm_T_ok (fun _ => trivial) [12, 1, 2, 3, 4] rfl rfl rfl [0] rfl rfl rfl rfl hl.1 rfl (Nat.le_of_ble_eq_true rfl) dX10_talks_145 ⟨Nat.zero_le _, Nat.zero_le _⟩ kk
      · rw [if_neg (show ¬ (m_now_kind (Int32.toNatClampNeg v16)) = 0 by rw [hk]; decide), if_neg (show ¬ (m_now_kind (Int32.toNatClampNeg v16)) = 1 by rw [hk]; decide), if_neg (show ¬ (m_now_kind (Int32.toNatClampNeg v16)) = 2 by rw [hk]; decide), if_neg (show ¬ (m_now_kind (Int32.toNatClampNeg v16)) = 3 by rw [hk]; decide), if_neg (show ¬ (m_now_kind (Int32.toNatClampNeg v16)) = 4 by rw [hk]; decide)] at ho20
        refine W.eq (g2 := F0 m 145 ls [.int v14, .int (m_now_want (Int32.toNatClampNeg v16)), .ref q_now, .ref q_kinds_5]) (by rw [hk]; rfl) ?_
        exact gm_callO (As := [.ref q_now, .int (m_now_want (Int32.toNatClampNeg v16)), .int v14]) (rest := []) (n := 3) (ci := 0) (q0 := 13) C0 hH (mX0_chimes l dC dI cI q_kinds_5 q_now q_now_ending q_now_meaning q_now_alikeTo q_now_cost q_now_kind q_now_want q_now_saidAhead q_now_heardWord q_now_heardAnswer m_now_words m_now_people m_now_said m_now_undos m_now_heard m_now_ending m_now_meaning m_now_alikeTo ((m_now_want (Int32.toNatClampNeg v16))) v14 0 rfl ho20) gX10_talks_X0_chimes_u179X0 rfl (List.mem_of_getElem? (i := 43) rfl) (by decide +kernel) ⟨rfl, rfl, Nat.le_of_ble_eq_true rfl, Nat.le_of_ble_eq_true rfl⟩ gm_T_ok (fun _ => trivial) [13, 1, 2, 3, 4] rfl rfl rfl [0] rfl rfl rfl rfl hl.1 rfl (Nat.le_of_ble_eq_true rfl) dX10_talks_145 ⟨Nat.zero_le _, Nat.zero_le _⟩ kk
set_option maxRecDepth 100000 in
set_option maxHeartbeats 4000000 in
theorem mX10_talks (l : Launch) (dC : Nat → ClassId) (dI : Nat → Nat → Nat) (cI cR : ClassId) (q q_now q_now_ending q_now_meaning q_now_alikeTo q_now_kind q_now_want q_kinds q_kinds_0 q_kinds_1 q_kinds_2 q_kinds_3 q_kinds_4 q_kinds_5 q_draft q_images q_text q_duel q_cover q_clashes q_tally q_sayableByPair q_chosenPairs q_now_cost q_now_saidAhead q_now_heardWord q_now_heardAnswer : Nat) (m_imagesKept : Int32) (m_bads : Int32) (m_nos : Int32) (m_fulls : Int32) (m_above : Int64) (m_below : Int64) (m_now_words : Int32) (m_now_people : Int32) (m_now_said : Int32) (m_now_undos : Int32) (m_now_heard : Int32) (m_now_ending : Nat → Int32) (m_now_meaning : Nat → Int32) (m_now_alikeTo : Nat → Int32) (m_now_kind : Nat → Int32) (m_now_want : Nat → Int32) (x1 : Int32) (x2 : Int32)  {N : Nat} {out : Int32 × Int32 × Int32 × Int32} (h : fX10_talks N m_bads m_nos m_fulls m_now_words m_now_people m_now_said m_now_ending m_now_meaning m_now_alikeTo m_now_kind m_now_want x1 x2 = some out) : gm_Met l yX10_talks wsX10_talks rX10_talks (dC, dI) [(cI, .int), (cR, .object "OnlyRhymes$Rhymer")] gm_T [.ref q, .int x1, .int x2] (wX10_talks cI cR q q_now q_now_ending q_now_meaning q_now_alikeTo q_now_kind q_now_want q_kinds q_kinds_0 q_kinds_1 q_kinds_2 q_kinds_3 q_kinds_4 q_kinds_5 q_draft q_images q_text q_duel q_cover q_clashes q_tally q_sayableByPair q_chosenPairs q_now_cost q_now_saidAhead q_now_heardWord q_now_heardAnswer m_imagesKept m_bads m_nos m_fulls m_above m_below m_now_words m_now_people m_now_said m_now_undos m_now_heard m_now_ending m_now_meaning m_now_alikeTo m_now_kind m_now_want) (some (.int out.1)) (wX10_talks cI cR q q_now q_now_ending q_now_meaning q_now_alikeTo q_now_kind q_now_want q_kinds q_kinds_0 q_kinds_1 q_kinds_2 q_kinds_3 q_kinds_4 q_kinds_5 q_draft q_images q_text q_duel q_cover q_clashes q_tally q_sayableByPair q_chosenPairs q_now_cost q_now_saidAhead q_now_heardWord q_now_heardAnswer m_imagesKept out.2.1 out.2.2.1 out.2.2.2 m_above m_below m_now_words m_now_people m_now_said m_now_undos m_now_heard m_now_ending m_now_meaning m_now_alikeTo m_now_kind m_now_want) := by
  refine gm_ofW (cc := cX10_talks) (maxL := 12) (ret := (some .int)) (by decide +kernel) rfl (Nat.le_of_ble_eq_true rfl) ?_
  intro p e s m below meth c A C0 hH ls hl
  generalize ([.ref q, .int x1, .int x2] : List Value).toArray = args at C0 ⊢
  have hl : lv_has ls 12 [(0, .ref q), (1, .int x1), (2, .int x2)] := hl
  generalize s.heap = H at hH ⊢
  generalize ([] : List Loc) = locs at hH ⊢
  obtain ⟨hx, hb, hml, hr, hown, hts, hA, hK, hX, hlocks⟩ := id C0
  unfold fX10_talks at h
  refine lv_iload_n hx hb dX10_talks_0 rfl (lv_at hl 1 rfl) ?_
  refine lv_ldc (own := RX10) (v := 1000000) hx hb hown (gm_at C0 1 rfl) dX10_talks_1 ?_
  obtain ⟨o1, ho1, h⟩ := gm_bind_e h
  refine gm_callS (As := [.int x1, .int 1000000]) (rest := []) (n := 2) C0 hH (mX10_fits l dC dI    x1 1000000   ho1) gX10_talks_X10_fits rfl (by decide +kernel) ⟨rfl, rfl, Nat.le_of_ble_eq_true rfl, Nat.le_of_ble_eq_true rfl⟩ gm_T_ok (fun _ => trivial) [] rfl rfl rfl [] rfl rfl hl.1 rfl (Nat.le_of_ble_eq_true rfl) dX10_talks_3 ⟨Nat.zero_le _, Nat.zero_le _⟩ (fun H locs hH => ?_)
  have hH : gm_H (dC, dI) A s (wX10_talks cI cR q q_now q_now_ending q_now_meaning q_now_alikeTo q_now_kind q_now_want q_kinds q_kinds_0 q_kinds_1 q_kinds_2 q_kinds_3 q_kinds_4 q_kinds_5 q_draft q_images q_text q_duel q_cover q_clashes q_tally q_sayableByPair q_chosenPairs q_now_cost q_now_saidAhead q_now_heardWord q_now_heardAnswer m_imagesKept m_bads m_nos m_fulls m_above m_below m_now_words m_now_people m_now_said m_now_undos m_now_heard m_now_ending m_now_meaning m_now_alikeTo m_now_kind m_now_want) H locs := hH
  refine lv_if_eq (tgt := 18) hx hb dX10_talks_6 (by decide) (fun hc2 => ?_) (fun hc2 => ?_)
  · replace h := gm_pos hc2 h
    exact tX10_talks_b18 C0  h hH (lv_sub hl [0] rfl)
  · replace h := gm_neg hc2 h
    refine lv_iload_n hx hb dX10_talks_9 rfl (lv_at hl 2 rfl) ?_
    refine lv_bipush (v := 61) hx hb dX10_talks_10 (by decide) ?_
    obtain ⟨o4, ho4, h⟩ := gm_bind_e h
    refine gm_callS (As := [.int x2, .int 61]) (rest := []) (n := 2) C0 hH (mX10_fits l dC dI    x2 61   ho4) gX10_talks_X10_fits rfl (by decide +kernel) ⟨rfl, rfl, Nat.le_of_ble_eq_true rfl, Nat.le_of_ble_eq_true rfl⟩ gm_T_ok (fun _ => trivial) [] rfl rfl rfl [] rfl rfl hl.1 rfl (Nat.le_of_ble_eq_true rfl) dX10_talks_12 ⟨Nat.zero_le _, Nat.zero_le _⟩ (fun H locs hH => ?_)
    have hH : gm_H (dC, dI) A s (wX10_talks cI cR q q_now q_now_ending q_now_meaning q_now_alikeTo q_now_kind q_now_want q_kinds q_kinds_0 q_kinds_1 q_kinds_2 q_kinds_3 q_kinds_4 q_kinds_5 q_draft q_images q_text q_duel q_cover q_clashes q_tally q_sayableByPair q_chosenPairs q_now_cost q_now_saidAhead q_now_heardWord q_now_heardAnswer m_imagesKept m_bads m_nos m_fulls m_above m_below m_now_words m_now_people m_now_said m_now_undos m_now_heard m_now_ending m_now_meaning m_now_alikeTo m_now_kind m_now_want) H locs := hH
    refine lv_if_ne (tgt := 25) hx hb dX10_talks_15 (by decide) (fun hc5 => ?_) (fun hc5 => ?_)
    · replace h := gm_neg hc5 h
      refine lv_aload_n hx hb dX10_talks_25 rfl (lv_at hl 0 rfl) ?_
      refine gm_get (ci := 10) C0 hH inX10_talks_X10 0 0 2 rfl rfl (by decide) rfl rfl dX10_talks_26 ?_
      refine gm_get (ci := 9) C0 hH inX10_talks_X9 1 3 3 rfl rfl (by decide) rfl rfl dX10_talks_29 ?_
      refine lv_if_eq (tgt := 45) hx hb dX10_talks_32 (by decide) (fun hc6 => ?_) (fun hc6 => ?_)
      · replace h := gm_pos hc6 h
        refine lv_iconst (v := (-1)) hx hb dX10_talks_45 (by decide) ?_
        obtain rfl := Option.some.inj h
        exact gm_iret C0 hH dX10_talks_46
      · replace h := gm_neg hc6 h
        refine lv_aload_n hx hb dX10_talks_35 rfl (lv_at hl 0 rfl) ?_
        refine gm_get (ci := 10) C0 hH inX10_talks_X10 0 0 2 rfl rfl (by decide) rfl rfl dX10_talks_36 ?_
        refine gm_get (ci := 9) C0 hH inX10_talks_X9 1 7 4 rfl rfl (by decide) rfl rfl dX10_talks_39 ?_
        refine lv_if_ne (tgt := 47) hx hb dX10_talks_42 (by decide) (fun hc7 => ?_) (fun hc7 => ?_)
        · replace h := gm_neg hc7 h
          refine lv_iload_n hx hb dX10_talks_47 rfl (lv_at hl 1 rfl) ?_
          refine lv_i2l hx hb dX10_talks_48 rfl ?_
          refine lv_topl (fun v8 ev8 => ?_)
          replace h := gm_let_e ev8 h
          refine lv_lstore_n (lv' := [(3, .long v8), (0, .ref q), (1, .int x1), (2, .int x2)]) hx hb dX10_talks_49 rfl hl (by decide) rfl (fun ls hl => ?_)
          refine lv_aload_n hx hb dX10_talks_50 rfl (lv_at hl 1 rfl) ?_
          refine gm_get (ci := 10) C0 hH inX10_talks_X10 0 0 2 rfl rfl (by decide) rfl rfl dX10_talks_51 ?_
          refine gm_get (ci := 9) C0 hH inX10_talks_X9 1 8 5 rfl rfl (by decide) rfl rfl dX10_talks_54 ?_
          refine lv_istore (lv' := [(5, .int m_now_said), (3, .long v8), (0, .ref q), (1, .int x1), (2, .int x2)]) hx hb dX10_talks_57 hl (by decide) rfl (fun ls hl => ?_)
          refine lv_iconst (v := 0) hx hb dX10_talks_59 (by decide) ?_
          refine lv_istore (lv' := [(6, .int 0), (5, .int m_now_said), (3, .long v8), (0, .ref q), (1, .int x1), (2, .int x2)]) hx hb dX10_talks_60 hl (by decide) rfl (fun ls hl => ?_)
          refine lv_iconst (v := 0) hx hb dX10_talks_62 (by decide) ?_
          refine lv_istore (lv' := [(7, .int 0), (6, .int 0), (5, .int m_now_said), (3, .long v8), (0, .ref q), (1, .int x1), (2, .int x2)]) hx hb dX10_talks_63 hl (by decide) rfl (fun ls hl => ?_)
          unfold fX10_talks_b65 at h
          exact tX10_talks_b65 C0  _ _ _ _ _ _ _ _ h hH (lv_sub hl [4, 6, 3, 2, 1, 0] rfl)
        · replace h := gm_pos hc7 h
          refine lv_iconst (v := (-1)) hx hb dX10_talks_45 (by decide) ?_
          obtain rfl := Option.some.inj h
          exact gm_iret C0 hH dX10_talks_46
    · replace h := gm_pos hc5 h
      exact tX10_talks_b18 C0  h hH (lv_sub hl [0] rfl)
