/-! X10_asks -/
abbrev wX10_asks (cI cR : ClassId) (q q_now q_now_ending q_now_meaning q_now_alikeTo q_now_kind q_now_want q_kinds q_kinds_0 q_kinds_1 q_kinds_2 q_kinds_3 q_kinds_4 q_kinds_5 q_draft q_images q_text q_duel q_cover q_clashes q_tally q_sayableByPair q_chosenPairs q_now_cost q_now_saidAhead q_now_heardWord q_now_heardAnswer : Nat) (m_imagesKept : Int32) (m_bads : Int32) (m_nos : Int32) (m_fulls : Int32) (m_above : Int64) (m_below : Int64) (m_now_words : Int32) (m_now_people : Int32) (m_now_said : Int32) (m_now_undos : Int32) (m_now_heard : Int32) (m_now_ending : Nat → Int32) (m_now_meaning : Nat → Int32) (m_now_alikeTo : Nat → Int32) (m_now_kind : Nat → Int32) (m_now_want : Nat → Int32) : va_W := [(q, .inr (10, [.ref q_now, .ref q_draft, .ref q_images, .int m_imagesKept, .ref q_kinds, .ref q_text, .ref q_duel, .ref q_cover, .int m_bads, .int m_nos, .int m_fulls, .long m_above, .long m_below, .ref q_clashes, .ref q_tally, .ref q_sayableByPair, .ref q_chosenPairs])), (q_now, .inr (9, [.ref q_now_ending, .ref q_now_meaning, .ref q_now_cost, .int m_now_words, .ref q_now_alikeTo, .ref q_now_kind, .ref q_now_want, .int m_now_people, .int m_now_said, .ref q_now_saidAhead, .int m_now_undos, .ref q_now_heardWord, .ref q_now_heardAnswer, .int m_now_heard])), (q_now_ending, .inl (cI, 10, .inl m_now_ending)), (q_now_meaning, .inl (cI, 10, .inl m_now_meaning)), (q_now_alikeTo, .inl (cI, 8, .inl m_now_alikeTo)), (q_now_kind, .inl (cI, 5, .inl m_now_kind)), (q_now_want, .inl (cI, 5, .inl m_now_want)), (q_kinds, .inl (cR, 6, .inr (.inr (.inr (.inr (gm_kd q_kinds_0 q_kinds_1 q_kinds_2 q_kinds_3 q_kinds_4 q_kinds_5)))))), (q_kinds_0, .inr (7, [])), (q_kinds_1, .inr (4, [])), (q_kinds_2, .inr (3, [])), (q_kinds_3, .inr (8, [])), (q_kinds_4, .inr (5, [])), (q_kinds_5, .inr (0, []))]
abbrev rX10_asks : Room := { frames := 6, cells := 0, slots := 0, locals := 137 }
def fX10_asks_b17 (N : Nat)  (m_bads : Int32) (m_nos : Int32) (m_fulls : Int32) : Option (Int32 × Int32 × Int32 × Int32) := gm_bind (fX10_refuse N m_bads m_nos m_fulls ((-2))) (fun o3 => some (o3.1, o3.2.1, o3.2.2.1, o3.2.2.2))
def fX10_asks_b29_body (N : Nat)  (m_bads : Int32) (m_nos : Int32) (m_fulls : Int32) (m_now_words : Int32) (m_now_said : Int32) (m_now_ending : Nat → Int32) (m_now_meaning : Nat → Int32) (m_now_alikeTo : Nat → Int32) (m_now_kind : Nat → Int32) (m_now_want : Nat → Int32) (x1 : Int32) (x2 : Int32) (r29 : Int32 → Int32 → Option (Int32 × Int32 × Int32 × Int32)) (x3 : Int32) (x4 : Int32) : Option (Int32 × Int32 × Int32 × Int32) := (if m_now_words ≤ x4 then some (x3, m_bads, m_nos, m_fulls) else gm_bind (fX10_sayableBits N m_now_words m_now_said m_now_ending m_now_meaning m_now_alikeTo m_now_kind m_now_want x1 x4) (fun o7 => gm_let ((x3 ||| (((o7 >>> (x2 &&& 31)) &&& 1) <<< (x4 &&& 31))) : Int32) (fun (v8 : Int32) => (r29 v8 ((x4 + 1))))))
def fX10_asks_b29 (N : Nat)  (m_bads : Int32) (m_nos : Int32) (m_fulls : Int32) (m_now_words : Int32) (m_now_said : Int32) (m_now_ending : Nat → Int32) (m_now_meaning : Nat → Int32) (m_now_alikeTo : Nat → Int32) (m_now_kind : Nat → Int32) (m_now_want : Nat → Int32) (x1 : Int32) (x2 : Int32) (x3 : Int32) (x4 : Int32) : Option (Int32 × Int32 × Int32 × Int32) := gm_fix (fX10_asks_b29_body N  m_bads m_nos m_fulls m_now_words m_now_said m_now_ending m_now_meaning m_now_alikeTo m_now_kind m_now_want x1 x2) (fun _ _ => none) N x3 x4
def fX10_asks (N : Nat) (m_bads : Int32) (m_nos : Int32) (m_fulls : Int32) (m_now_words : Int32) (m_now_people : Int32) (m_now_said : Int32) (m_now_ending : Nat → Int32) (m_now_meaning : Nat → Int32) (m_now_alikeTo : Nat → Int32) (m_now_kind : Nat → Int32) (m_now_want : Nat → Int32) (x1 : Int32) (x2 : Int32) : Option (Int32 × Int32 × Int32 × Int32) := gm_bind (fX10_isPerson N m_now_people x1) (fun o1 => (if o1 = 0 then (fX10_asks_b17 N  m_bads m_nos m_fulls) else gm_bind (fX10_fits N x2 8) (fun o4 => (if o4 = 0 then (fX10_asks_b17 N  m_bads m_nos m_fulls) else (fX10_asks_b29 N  m_bads m_nos m_fulls m_now_words m_now_said m_now_ending m_now_meaning m_now_alikeTo m_now_kind m_now_want x1 x2 0 0)))))
set_option maxRecDepth 20000 in
theorem inX10_asks_X10 : ∀ w ∈ u_ws RX10 TX10 17, w ∈ wsX10_asks := fun w h => by
  obtain ⟨k, hk, rfl⟩ := List.mem_map.mp h
  have hk2 := List.mem_range.mp hk
  exact List.mem_of_getElem? (i := 93 + k) (by rcases (show k = 0 ∨ k = 1 ∨ k = 2 ∨ k = 3 ∨ k = 4 ∨ k = 5 ∨ k = 6 ∨ k = 7 ∨ k = 8 ∨ k = 9 ∨ k = 10 ∨ k = 11 ∨ k = 12 ∨ k = 13 ∨ k = 14 ∨ k = 15 ∨ k = 16 by omega) with rfl | rfl | rfl | rfl | rfl | rfl | rfl | rfl | rfl | rfl | rfl | rfl | rfl | rfl | rfl | rfl | rfl <;> rfl)
set_option maxRecDepth 20000 in
theorem inX10_asks_X9 : ∀ w ∈ u_ws RX9 TX9 14, w ∈ wsX10_asks := fun w h => by
  obtain ⟨k, hk, rfl⟩ := List.mem_map.mp h
  have hk2 := List.mem_range.mp hk
  exact List.mem_of_getElem? (i := 110 + k) (by rcases (show k = 0 ∨ k = 1 ∨ k = 2 ∨ k = 3 ∨ k = 4 ∨ k = 5 ∨ k = 6 ∨ k = 7 ∨ k = 8 ∨ k = 9 ∨ k = 10 ∨ k = 11 ∨ k = 12 ∨ k = 13 by omega) with rfl | rfl | rfl | rfl | rfl | rfl | rfl | rfl | rfl | rfl | rfl | rfl | rfl | rfl <;> rfl)
set_option maxRecDepth 100000 in
set_option maxHeartbeats 4000000 in
theorem tX10_asks_b17 {p : Program} {l : Launch} {e : Env} {s : State} {m : MethodId} {args : Array Value} {below : List Frame} {meth : Method} {c : Code} {A : Nat → Prop} {dC : Nat → ClassId} {dI : Nat → Nat → Nat} {cI cR : ClassId} {q q_now q_now_ending q_now_meaning q_now_alikeTo q_now_kind q_now_want q_kinds q_kinds_0 q_kinds_1 q_kinds_2 q_kinds_3 q_kinds_4 q_kinds_5 q_draft q_images q_text q_duel q_cover q_clashes q_tally q_sayableByPair q_chosenPairs q_now_cost q_now_saidAhead q_now_heardWord q_now_heardAnswer : Nat} {m_imagesKept : Int32} {m_bads : Int32} {m_nos : Int32} {m_fulls : Int32} {m_above : Int64} {m_below : Int64} {m_now_words : Int32} {m_now_people : Int32} {m_now_said : Int32} {m_now_undos : Int32} {m_now_heard : Int32} {m_now_ending : Nat → Int32} {m_now_meaning : Nat → Int32} {m_now_alikeTo : Nat → Int32} {m_now_kind : Nat → Int32} {m_now_want : Nat → Int32} (C0 : gm_C p s m args meth c (dC, dI) [(cI, .int), (cR, .object "OnlyRhymes$Rhymer")] A gm_T RX10 cX10_asks 5 (some .int) wsX10_asks) {N : Nat} {out : Int32 × Int32 × Int32 × Int32}    {H : Heap} {locs : List Loc} {ls : Array Slot} (h : fX10_asks_b17 N  m_bads m_nos m_fulls = some out) (hH : gm_H (dC, dI) A s (wX10_asks cI cR q q_now q_now_ending q_now_meaning q_now_alikeTo q_now_kind q_now_want q_kinds q_kinds_0 q_kinds_1 q_kinds_2 q_kinds_3 q_kinds_4 q_kinds_5 q_draft q_images q_text q_duel q_cover q_clashes q_tally q_sayableByPair q_chosenPairs q_now_cost q_now_saidAhead q_now_heardWord q_now_heardAnswer m_imagesKept m_bads m_nos m_fulls m_above m_below m_now_words m_now_people m_now_said m_now_undos m_now_heard m_now_ending m_now_meaning m_now_alikeTo m_now_kind m_now_want) H locs) (hl : lv_has ls 5 [(0, .ref q)]) : W p l e rX10_asks s m args below meth c H locs 0 0 (MQ below (gm_Q (dC, dI) [(cI, .int), (cR, .object "OnlyRhymes$Rhymer")] A (some (.int out.1)) (wX10_asks cI cR q q_now q_now_ending q_now_meaning q_now_alikeTo q_now_kind q_now_want q_kinds q_kinds_0 q_kinds_1 q_kinds_2 q_kinds_3 q_kinds_4 q_kinds_5 q_draft q_images q_text q_duel q_cover q_clashes q_tally q_sayableByPair q_chosenPairs q_now_cost q_now_saidAhead q_now_heardWord q_now_heardAnswer m_imagesKept out.2.1 out.2.2.1 out.2.2.2 m_above m_below m_now_words m_now_people m_now_said m_now_undos m_now_heard m_now_ending m_now_meaning m_now_alikeTo m_now_kind m_now_want)) args s 0 0 A) (F0 m 17 ls []) := by
  obtain ⟨hx, hb, hml, hr, hown, hts, hA, hK, hX, hlocks⟩ := id C0
  unfold fX10_asks_b17 at h
  refine lv_aload_n hx hb dX10_asks_17 rfl (lv_at hl 0 rfl) ?_
  refine lv_bipush (v := (-2)) hx hb dX10_asks_18 (by decide) ?_
  obtain ⟨o3, ho3, h⟩ := gm_bind_e h
  refine gm_callV (As := [.int (-2)]) (rest := []) (n := 1) (ci := 10) (q0 := 0) C0 hH (mX10_refuse l dC dI  q q_now q_draft q_images q_kinds q_text q_duel q_cover q_clashes q_tally q_sayableByPair q_chosenPairs m_imagesKept m_bads m_nos m_fulls m_above m_below ((-2))   ho3) gX10_asks_X10_refuse rfl (by decide +kernel) ⟨rfl, rfl, Nat.le_of_ble_eq_true rfl, Nat.le_of_ble_eq_true rfl⟩ gm_T_ok (fun _ => trivial) [0] rfl rfl rfl [] rfl rfl rfl rfl hl.1 rfl (Nat.le_of_ble_eq_true rfl) dX10_asks_20 ⟨Nat.zero_le _, Nat.zero_le _⟩ (fun H locs hH => ?_)
  have hH : gm_H (dC, dI) A s (wX10_asks cI cR q q_now q_now_ending q_now_meaning q_now_alikeTo q_now_kind q_now_want q_kinds q_kinds_0 q_kinds_1 q_kinds_2 q_kinds_3 q_kinds_4 q_kinds_5 q_draft q_images q_text q_duel q_cover q_clashes q_tally q_sayableByPair q_chosenPairs q_now_cost q_now_saidAhead q_now_heardWord q_now_heardAnswer m_imagesKept o3.2.1 o3.2.2.1 o3.2.2.2 m_above m_below m_now_words m_now_people m_now_said m_now_undos m_now_heard m_now_ending m_now_meaning m_now_alikeTo m_now_kind m_now_want) H locs := hH
  obtain rfl := Option.some.inj h
  exact gm_iret C0 hH dX10_asks_23
set_option maxRecDepth 100000 in
set_option maxHeartbeats 4000000 in
theorem tX10_asks_b29 {p : Program} {l : Launch} {e : Env} {s : State} {m : MethodId} {args : Array Value} {below : List Frame} {meth : Method} {c : Code} {A : Nat → Prop} {dC : Nat → ClassId} {dI : Nat → Nat → Nat} {cI cR : ClassId} {q q_now q_now_ending q_now_meaning q_now_alikeTo q_now_kind q_now_want q_kinds q_kinds_0 q_kinds_1 q_kinds_2 q_kinds_3 q_kinds_4 q_kinds_5 q_draft q_images q_text q_duel q_cover q_clashes q_tally q_sayableByPair q_chosenPairs q_now_cost q_now_saidAhead q_now_heardWord q_now_heardAnswer : Nat} {m_imagesKept : Int32} {m_bads : Int32} {m_nos : Int32} {m_fulls : Int32} {m_above : Int64} {m_below : Int64} {m_now_words : Int32} {m_now_people : Int32} {m_now_said : Int32} {m_now_undos : Int32} {m_now_heard : Int32} {m_now_ending : Nat → Int32} {m_now_meaning : Nat → Int32} {m_now_alikeTo : Nat → Int32} {m_now_kind : Nat → Int32} {m_now_want : Nat → Int32} {x1 : Int32} {x2 : Int32} (C0 : gm_C p s m args meth c (dC, dI) [(cI, .int), (cR, .object "OnlyRhymes$Rhymer")] A gm_T RX10 cX10_asks 5 (some .int) wsX10_asks) {N : Nat} {out : Int32 × Int32 × Int32 × Int32}   : ∀ (n : Nat), ∀ (x3 : Int32) (x4 : Int32) (H : Heap) (locs : List Loc) (ls : Array Slot), (gm_fix (fX10_asks_b29_body N  m_bads m_nos m_fulls m_now_words m_now_said m_now_ending m_now_meaning m_now_alikeTo m_now_kind m_now_want x1 x2) (fun _ _ => none) n) x3 x4 = some out → gm_H (dC, dI) A s (wX10_asks cI cR q q_now q_now_ending q_now_meaning q_now_alikeTo q_now_kind q_now_want q_kinds q_kinds_0 q_kinds_1 q_kinds_2 q_kinds_3 q_kinds_4 q_kinds_5 q_draft q_images q_text q_duel q_cover q_clashes q_tally q_sayableByPair q_chosenPairs q_now_cost q_now_saidAhead q_now_heardWord q_now_heardAnswer m_imagesKept m_bads m_nos m_fulls m_above m_below m_now_words m_now_people m_now_said m_now_undos m_now_heard m_now_ending m_now_meaning m_now_alikeTo m_now_kind m_now_want) H locs → lv_has ls 5 [(0, .ref q), (1, .int x1), (2, .int x2), (3, .int x3), (4, .int x4)] → W p l e rX10_asks s m args below meth c H locs 0 0 (MQ below (gm_Q (dC, dI) [(cI, .int), (cR, .object "OnlyRhymes$Rhymer")] A (some (.int out.1)) (wX10_asks cI cR q q_now q_now_ending q_now_meaning q_now_alikeTo q_now_kind q_now_want q_kinds q_kinds_0 q_kinds_1 q_kinds_2 q_kinds_3 q_kinds_4 q_kinds_5 q_draft q_images q_text q_duel q_cover q_clashes q_tally q_sayableByPair q_chosenPairs q_now_cost q_now_saidAhead q_now_heardWord q_now_heardAnswer m_imagesKept out.2.1 out.2.2.1 out.2.2.2 m_above m_below m_now_words m_now_people m_now_said m_now_undos m_now_heard m_now_ending m_now_meaning m_now_alikeTo m_now_kind m_now_want)) args s 0 0 A) (F0 m 29 ls []) := by
  obtain ⟨hx, hb, hml, hr, hown, hts, hA, hK, hX, hlocks⟩ := id C0
  intro n
  induction n with
  | zero =>
    intro x3 x4 H locs ls h hH hl
    cases h
  | succ n hr29 =>
    intro x3 x4 H locs ls h hH hl
    rw [gm_fix_s] at h
    unfold fX10_asks_b29_body at h
    refine lv_iload hx hb dX10_asks_29 (lv_at hl 4 rfl) ?_
    refine lv_aload_n hx hb dX10_asks_31 rfl (lv_at hl 0 rfl) ?_
    refine gm_get (ci := 10) C0 hH inX10_asks_X10 0 0 1 rfl rfl (by decide) rfl rfl dX10_asks_32 ?_
    refine gm_get (ci := 9) C0 hH inX10_asks_X9 1 3 2 rfl rfl (by decide) rfl rfl dX10_asks_35 ?_
    refine lv_icmp_ge (tgt := 64) hx hb dX10_asks_38 (by decide) (fun hc6 => ?_) (fun hc6 => ?_)
    · replace h := gm_pos hc6 h
      refine lv_iload_n hx hb dX10_asks_64 rfl (lv_at hl 3 rfl) ?_
      obtain rfl := Option.some.inj h
      exact gm_iret C0 hH dX10_asks_65
    · replace h := gm_neg hc6 h
      refine lv_iload_n hx hb dX10_asks_41 rfl (lv_at hl 3 rfl) ?_
      refine lv_aload_n hx hb dX10_asks_42 rfl (lv_at hl 0 rfl) ?_
      refine lv_iload_n hx hb dX10_asks_43 rfl (lv_at hl 1 rfl) ?_
      refine lv_iload hx hb dX10_asks_44 (lv_at hl 4 rfl) ?_
      obtain ⟨o7, ho7, h⟩ := gm_bind_e h
      refine gm_callV (As := [.int x1, .int x4]) (rest := [.int x3]) (n := 2) (ci := 10) (q0 := 0) C0 hH (mX10_sayableBits l dC dI cI cR q q_now q_now_ending q_now_meaning q_now_alikeTo q_now_kind q_now_want q_kinds q_kinds_0 q_kinds_1 q_kinds_2 q_kinds_3 q_kinds_4 q_kinds_5 q_draft q_images q_text q_duel q_cover q_clashes q_tally q_sayableByPair q_chosenPairs q_now_cost q_now_saidAhead q_now_heardWord q_now_heardAnswer m_imagesKept m_bads m_nos m_fulls m_above m_below m_now_words m_now_people m_now_said m_now_undos m_now_heard m_now_ending m_now_meaning m_now_alikeTo m_now_kind m_now_want x1 x4   ho7) gX10_asks_X10_sayableBits rfl (by decide +kernel) ⟨rfl, rfl, Nat.le_of_ble_eq_true rfl, Nat.le_of_ble_eq_true rfl⟩ gm_T_ok (fun _ => trivial) [0, 1, 2, 3, 4, 5, 6, 7, 8, 9, 10, 11, 12, 13] rfl rfl rfl [0, 1] rfl rfl rfl rfl hl.1 rfl (Nat.le_of_ble_eq_true rfl) dX10_asks_46 ⟨Nat.zero_le _, Nat.zero_le _⟩ (fun H locs hH => ?_)
      simp only [wX10_asks, wX10_sayableBits, gm_sets, List.set_cons_succ, List.set_cons_zero] at hH
      have hH : gm_H (dC, dI) A s (wX10_asks cI cR q q_now q_now_ending q_now_meaning q_now_alikeTo q_now_kind q_now_want q_kinds q_kinds_0 q_kinds_1 q_kinds_2 q_kinds_3 q_kinds_4 q_kinds_5 q_draft q_images q_text q_duel q_cover q_clashes q_tally q_sayableByPair q_chosenPairs q_now_cost q_now_saidAhead q_now_heardWord q_now_heardAnswer m_imagesKept m_bads m_nos m_fulls m_above m_below m_now_words m_now_people m_now_said m_now_undos m_now_heard m_now_ending m_now_meaning m_now_alikeTo m_now_kind m_now_want) H locs := hH
      refine lv_iload_n hx hb dX10_asks_49 rfl (lv_at hl 2 rfl) ?_
      refine lv_ishr hx hb dX10_asks_50 ?_
      refine lv_iconst (v := 1) hx hb dX10_asks_51 (by decide) ?_
      refine lv_iand hx hb dX10_asks_52 ?_
      refine lv_iload hx hb dX10_asks_53 (lv_at hl 4 rfl) ?_
      refine lv_ishl hx hb dX10_asks_55 ?_
      refine lv_ior hx hb dX10_asks_56 ?_
      refine lv_topi (fun v8 ev8 => ?_)
      replace h := gm_let_e ev8 h
      refine lv_istore_n (lv' := [(3, .int v8), (0, .ref q), (1, .int x1), (2, .int x2), (4, .int x4)]) hx hb dX10_asks_57 rfl hl (by decide) rfl (fun ls hl => ?_)
      refine lv_iinc (v := (x4 + 1)) (lv' := [(4, .int (x4 + 1)), (3, .int v8), (0, .ref q), (1, .int x1), (2, .int x2)]) hx hb dX10_asks_58 hl (k := 4) rfl rfl (by decide) rfl (fun ls hl => ?_)
      refine lv_goto (tgt := 29) hx hb dX10_asks_61 (by decide) ?_
      exact hr29 _ _ _ _ _ h hH (lv_sub hl [2, 3, 4, 1, 0] rfl)
set_option maxRecDepth 100000 in
set_option maxHeartbeats 4000000 in
theorem mX10_asks (l : Launch) (dC : Nat → ClassId) (dI : Nat → Nat → Nat) (cI cR : ClassId) (q q_now q_now_ending q_now_meaning q_now_alikeTo q_now_kind q_now_want q_kinds q_kinds_0 q_kinds_1 q_kinds_2 q_kinds_3 q_kinds_4 q_kinds_5 q_draft q_images q_text q_duel q_cover q_clashes q_tally q_sayableByPair q_chosenPairs q_now_cost q_now_saidAhead q_now_heardWord q_now_heardAnswer : Nat) (m_imagesKept : Int32) (m_bads : Int32) (m_nos : Int32) (m_fulls : Int32) (m_above : Int64) (m_below : Int64) (m_now_words : Int32) (m_now_people : Int32) (m_now_said : Int32) (m_now_undos : Int32) (m_now_heard : Int32) (m_now_ending : Nat → Int32) (m_now_meaning : Nat → Int32) (m_now_alikeTo : Nat → Int32) (m_now_kind : Nat → Int32) (m_now_want : Nat → Int32) (x1 : Int32) (x2 : Int32)  {N : Nat} {out : Int32 × Int32 × Int32 × Int32} (h : fX10_asks N m_bads m_nos m_fulls m_now_words m_now_people m_now_said m_now_ending m_now_meaning m_now_alikeTo m_now_kind m_now_want x1 x2 = some out) : gm_Met l yX10_asks wsX10_asks rX10_asks (dC, dI) [(cI, .int), (cR, .object "OnlyRhymes$Rhymer")] gm_T [.ref q, .int x1, .int x2] (wX10_asks cI cR q q_now q_now_ending q_now_meaning q_now_alikeTo q_now_kind q_now_want q_kinds q_kinds_0 q_kinds_1 q_kinds_2 q_kinds_3 q_kinds_4 q_kinds_5 q_draft q_images q_text q_duel q_cover q_clashes q_tally q_sayableByPair q_chosenPairs q_now_cost q_now_saidAhead q_now_heardWord q_now_heardAnswer m_imagesKept m_bads m_nos m_fulls m_above m_below m_now_words m_now_people m_now_said m_now_undos m_now_heard m_now_ending m_now_meaning m_now_alikeTo m_now_kind m_now_want) (some (.int out.1)) (wX10_asks cI cR q q_now q_now_ending q_now_meaning q_now_alikeTo q_now_kind q_now_want q_kinds q_kinds_0 q_kinds_1 q_kinds_2 q_kinds_3 q_kinds_4 q_kinds_5 q_draft q_images q_text q_duel q_cover q_clashes q_tally q_sayableByPair q_chosenPairs q_now_cost q_now_saidAhead q_now_heardWord q_now_heardAnswer m_imagesKept out.2.1 out.2.2.1 out.2.2.2 m_above m_below m_now_words m_now_people m_now_said m_now_undos m_now_heard m_now_ending m_now_meaning m_now_alikeTo m_now_kind m_now_want) := by
  refine gm_ofW (cc := cX10_asks) (maxL := 5) (ret := (some .int)) (by decide +kernel) rfl (Nat.le_of_ble_eq_true rfl) ?_
  intro p e s m below meth c A C0 hH ls hl
  generalize ([.ref q, .int x1, .int x2] : List Value).toArray = args at C0 ⊢
  have hl : lv_has ls 5 [(0, .ref q), (1, .int x1), (2, .int x2)] := hl
  generalize s.heap = H at hH ⊢
  generalize ([] : List Loc) = locs at hH ⊢
  obtain ⟨hx, hb, hml, hr, hown, hts, hA, hK, hX, hlocks⟩ := id C0
  unfold fX10_asks at h
  refine lv_aload_n hx hb dX10_asks_0 rfl (lv_at hl 0 rfl) ?_
  refine lv_iload_n hx hb dX10_asks_1 rfl (lv_at hl 1 rfl) ?_
  obtain ⟨o1, ho1, h⟩ := gm_bind_e h
  refine gm_callV (As := [.int x1]) (rest := []) (n := 1) (ci := 10) (q0 := 0) C0 hH (mX10_isPerson l dC dI  q q_now q_draft q_images q_kinds q_text q_duel q_cover q_clashes q_tally q_sayableByPair q_chosenPairs q_now_ending q_now_meaning q_now_cost q_now_alikeTo q_now_kind q_now_want q_now_saidAhead q_now_heardWord q_now_heardAnswer m_imagesKept m_bads m_nos m_fulls m_above m_below m_now_words m_now_people m_now_said m_now_undos m_now_heard x1   ho1) gX10_asks_X10_isPerson rfl (by decide +kernel) ⟨rfl, rfl, Nat.le_of_ble_eq_true rfl, Nat.le_of_ble_eq_true rfl⟩ gm_T_ok (fun _ => trivial) [0, 1] rfl rfl rfl [] rfl rfl rfl rfl hl.1 rfl (Nat.le_of_ble_eq_true rfl) dX10_asks_2 ⟨Nat.zero_le _, Nat.zero_le _⟩ (fun H locs hH => ?_)
  have hH : gm_H (dC, dI) A s (wX10_asks cI cR q q_now q_now_ending q_now_meaning q_now_alikeTo q_now_kind q_now_want q_kinds q_kinds_0 q_kinds_1 q_kinds_2 q_kinds_3 q_kinds_4 q_kinds_5 q_draft q_images q_text q_duel q_cover q_clashes q_tally q_sayableByPair q_chosenPairs q_now_cost q_now_saidAhead q_now_heardWord q_now_heardAnswer m_imagesKept m_bads m_nos m_fulls m_above m_below m_now_words m_now_people m_now_said m_now_undos m_now_heard m_now_ending m_now_meaning m_now_alikeTo m_now_kind m_now_want) H locs := hH
  refine lv_if_eq (tgt := 17) hx hb dX10_asks_5 (by decide) (fun hc2 => ?_) (fun hc2 => ?_)
  · replace h := gm_pos hc2 h
    exact tX10_asks_b17 C0  h hH (lv_sub hl [0] rfl)
  · replace h := gm_neg hc2 h
    refine lv_iload_n hx hb dX10_asks_8 rfl (lv_at hl 2 rfl) ?_
    refine lv_bipush (v := 8) hx hb dX10_asks_9 (by decide) ?_
    obtain ⟨o4, ho4, h⟩ := gm_bind_e h
    refine gm_callS (As := [.int x2, .int 8]) (rest := []) (n := 2) C0 hH (mX10_fits l dC dI    x2 8   ho4) gX10_asks_X10_fits rfl (by decide +kernel) ⟨rfl, rfl, Nat.le_of_ble_eq_true rfl, Nat.le_of_ble_eq_true rfl⟩ gm_T_ok (fun _ => trivial) [] rfl rfl rfl [] rfl rfl hl.1 rfl (Nat.le_of_ble_eq_true rfl) dX10_asks_11 ⟨Nat.zero_le _, Nat.zero_le _⟩ (fun H locs hH => ?_)
    have hH : gm_H (dC, dI) A s (wX10_asks cI cR q q_now q_now_ending q_now_meaning q_now_alikeTo q_now_kind q_now_want q_kinds q_kinds_0 q_kinds_1 q_kinds_2 q_kinds_3 q_kinds_4 q_kinds_5 q_draft q_images q_text q_duel q_cover q_clashes q_tally q_sayableByPair q_chosenPairs q_now_cost q_now_saidAhead q_now_heardWord q_now_heardAnswer m_imagesKept m_bads m_nos m_fulls m_above m_below m_now_words m_now_people m_now_said m_now_undos m_now_heard m_now_ending m_now_meaning m_now_alikeTo m_now_kind m_now_want) H locs := hH
    refine lv_if_ne (tgt := 24) hx hb dX10_asks_14 (by decide) (fun hc5 => ?_) (fun hc5 => ?_)
    · replace h := gm_neg hc5 h
      refine lv_iconst (v := 0) hx hb dX10_asks_24 (by decide) ?_
      refine lv_istore_n (lv' := [(3, .int 0), (0, .ref q), (1, .int x1), (2, .int x2)]) hx hb dX10_asks_25 rfl hl (by decide) rfl (fun ls hl => ?_)
      refine lv_iconst (v := 0) hx hb dX10_asks_26 (by decide) ?_
      refine lv_istore (lv' := [(4, .int 0), (3, .int 0), (0, .ref q), (1, .int x1), (2, .int x2)]) hx hb dX10_asks_27 hl (by decide) rfl (fun ls hl => ?_)
      unfold fX10_asks_b29 at h
      exact tX10_asks_b29 C0  _ _ _ _ _ _ h hH (lv_sub hl [2, 3, 4, 1, 0] rfl)
    · replace h := gm_pos hc5 h
      exact tX10_asks_b17 C0  h hH (lv_sub hl [0] rfl)
