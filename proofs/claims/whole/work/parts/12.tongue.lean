/-! X9_wordsEnding -/
abbrev wX9_wordsEnding (cI : ClassId) (q q_ending q_meaning q_cost q_alikeTo q_kind q_want q_saidAhead q_heardWord q_heardAnswer : Nat) (m_words : Int32) (m_people : Int32) (m_said : Int32) (m_undos : Int32) (m_heard : Int32) (m_ending : Nat → Int32) : va_W := [(q, .inr (9, [.ref q_ending, .ref q_meaning, .ref q_cost, .int m_words, .ref q_alikeTo, .ref q_kind, .ref q_want, .int m_people, .int m_said, .ref q_saidAhead, .int m_undos, .ref q_heardWord, .ref q_heardAnswer, .int m_heard])), (q_ending, .inl (cI, 10, .inl m_ending))]
abbrev rX9_wordsEnding : Room := { frames := 0, cells := 0, slots := 0, locals := 0 }
def fX9_wordsEnding_b4_body (N : Nat)  (m_words : Int32) (m_ending : Nat → Int32) (x1 : Int32) (r4 : Int32 → Int32 → Option (Int32)) (x2 : Int32) (x3 : Int32) : Option (Int32) := (if m_words ≤ x3 then some (x2) else gm_chk x3 10 (gm_let ((x2 ||| (((x1 >>> ((m_ending (Int32.toNatClampNeg x3)) &&& 31)) &&& 1) <<< (x3 &&& 31))) : Int32) (fun (v3 : Int32) => (r4 v3 ((x3 + 1))))))
def fX9_wordsEnding_b4 (N : Nat)  (m_words : Int32) (m_ending : Nat → Int32) (x1 : Int32) (x2 : Int32) (x3 : Int32) : Option (Int32) := gm_fix (fX9_wordsEnding_b4_body N  m_words m_ending x1) (fun _ _ => none) N x2 x3
def fX9_wordsEnding (N : Nat) (m_words : Int32) (m_ending : Nat → Int32) (x1 : Int32) : Option (Int32) := (fX9_wordsEnding_b4 N  m_words m_ending x1 0 0)
set_option maxRecDepth 20000 in
theorem inX9_wordsEnding_X9 : ∀ w ∈ u_ws RX9 TX9 14, w ∈ wsX9_wordsEnding := fun w h => by
  obtain ⟨k, hk, rfl⟩ := List.mem_map.mp h
  have hk2 := List.mem_range.mp hk
  exact List.mem_of_getElem? (i := 3 + k) (by rcases (show k = 0 ∨ k = 1 ∨ k = 2 ∨ k = 3 ∨ k = 4 ∨ k = 5 ∨ k = 6 ∨ k = 7 ∨ k = 8 ∨ k = 9 ∨ k = 10 ∨ k = 11 ∨ k = 12 ∨ k = 13 by omega) with rfl | rfl | rfl | rfl | rfl | rfl | rfl | rfl | rfl | rfl | rfl | rfl | rfl | rfl <;> rfl)
set_option maxRecDepth 100000 in
set_option maxHeartbeats 4000000 in
theorem tX9_wordsEnding_b4 {p : Program} {l : Launch} {e : Env} {s : State} {m : MethodId} {args : Array Value} {below : List Frame} {meth : Method} {c : Code} {A : Nat → Prop} {dC : Nat → ClassId} {dI : Nat → Nat → Nat} {cI : ClassId} {q q_ending q_meaning q_cost q_alikeTo q_kind q_want q_saidAhead q_heardWord q_heardAnswer : Nat} {m_words : Int32} {m_people : Int32} {m_said : Int32} {m_undos : Int32} {m_heard : Int32} {m_ending : Nat → Int32} {x1 : Int32} (C0 : gm_C p s m args meth c (dC, dI) [(cI, .int)] A gm_T RX9 cX9_wordsEnding 4 (some .int) wsX9_wordsEnding) {N : Nat} {out : Int32}   : ∀ (n : Nat), ∀ (x2 : Int32) (x3 : Int32) (H : Heap) (locs : List Loc) (ls : Array Slot), (gm_fix (fX9_wordsEnding_b4_body N  m_words m_ending x1) (fun _ _ => none) n) x2 x3 = some out → gm_H (dC, dI) A s (wX9_wordsEnding cI q q_ending q_meaning q_cost q_alikeTo q_kind q_want q_saidAhead q_heardWord q_heardAnswer m_words m_people m_said m_undos m_heard m_ending) H locs → lv_has ls 4 [(0, .ref q), (1, .int x1), (2, .int x2), (3, .int x3)] → W p l e rX9_wordsEnding s m args below meth c H locs 0 0 (MQ below (gm_Q (dC, dI) [(cI, .int)] A (some (.int out)) (wX9_wordsEnding cI q q_ending q_meaning q_cost q_alikeTo q_kind q_want q_saidAhead q_heardWord q_heardAnswer m_words m_people m_said m_undos m_heard m_ending)) args s 0 0 A) (F0 m 4 ls []) := by
  obtain ⟨hx, hb, hml, hr, hown, hts, hA, hK, hX, hlocks⟩ := id C0
  intro n
  induction n with
  | zero =>
    intro x2 x3 H locs ls h hH hl
    cases h
  | succ n hr4 =>
    intro x2 x3 H locs ls h hH hl
    rw [gm_fix_s] at h
    unfold fX9_wordsEnding_b4_body at h
    refine lv_iload_n hx hb dX9_wordsEnding_4 rfl (lv_at hl 3 rfl) ?_
    refine lv_aload_n hx hb dX9_wordsEnding_5 rfl (lv_at hl 0 rfl) ?_
    refine gm_get (ci := 9) C0 hH inX9_wordsEnding_X9 0 3 1 rfl rfl (by decide) rfl rfl dX9_wordsEnding_6 ?_
    refine lv_icmp_ge (tgt := 33) hx hb dX9_wordsEnding_9 (by decide) (fun hc1 => ?_) (fun hc1 => ?_)
    · replace h := gm_pos hc1 h
      refine lv_iload_n hx hb dX9_wordsEnding_33 rfl (lv_at hl 2 rfl) ?_
      obtain rfl := Option.some.inj h
      exact gm_iret C0 hH dX9_wordsEnding_34
    · replace h := gm_neg hc1 h
      refine lv_iload_n hx hb dX9_wordsEnding_12 rfl (lv_at hl 2 rfl) ?_
      refine lv_iload_n hx hb dX9_wordsEnding_13 rfl (lv_at hl 1 rfl) ?_
      refine lv_aload_n hx hb dX9_wordsEnding_14 rfl (lv_at hl 0 rfl) ?_
      refine gm_get (ci := 9) C0 hH inX9_wordsEnding_X9 0 0 2 rfl rfl (by decide) rfl rfl dX9_wordsEnding_15 ?_
      refine lv_iload_n hx hb dX9_wordsEnding_18 rfl (lv_at hl 3 rfl) ?_
      obtain ⟨hi2, h⟩ := gm_chk_e h
      refine gm_iald C0 hH hi2 1 0 rfl rfl dX9_wordsEnding_19 ?_
      refine lv_ishr hx hb dX9_wordsEnding_20 ?_
      refine lv_iconst (v := 1) hx hb dX9_wordsEnding_21 (by decide) ?_
      refine lv_iand hx hb dX9_wordsEnding_22 ?_
      refine lv_iload_n hx hb dX9_wordsEnding_23 rfl (lv_at hl 3 rfl) ?_
      refine lv_ishl hx hb dX9_wordsEnding_24 ?_
      refine lv_ior hx hb dX9_wordsEnding_25 ?_
      refine lv_topi (fun v3 ev3 => ?_)
      replace h := gm_let_e ev3 h
      refine lv_istore_n (lv' := [(2, .int v3), (0, .ref q), (1, .int x1), (3, .int x3)]) hx hb dX9_wordsEnding_26 rfl hl (by decide) rfl (fun ls hl => ?_)
      refine lv_iinc (v := (x3 + 1)) (lv' := [(3, .int (x3 + 1)), (2, .int v3), (0, .ref q), (1, .int x1)]) hx hb dX9_wordsEnding_27 hl (k := 3) rfl rfl (by decide) rfl (fun ls hl => ?_)
      refine lv_goto (tgt := 4) hx hb dX9_wordsEnding_30 (by decide) ?_
      exact hr4 _ _ _ _ _ h hH (lv_sub hl [2, 3, 1, 0] rfl)
set_option maxRecDepth 100000 in
set_option maxHeartbeats 4000000 in
theorem mX9_wordsEnding (l : Launch) (dC : Nat → ClassId) (dI : Nat → Nat → Nat) (cI : ClassId) (q q_ending q_meaning q_cost q_alikeTo q_kind q_want q_saidAhead q_heardWord q_heardAnswer : Nat) (m_words : Int32) (m_people : Int32) (m_said : Int32) (m_undos : Int32) (m_heard : Int32) (m_ending : Nat → Int32) (x1 : Int32)  {N : Nat} {out : Int32} (h : fX9_wordsEnding N m_words m_ending x1 = some out) : gm_Met l yX9_wordsEnding wsX9_wordsEnding rX9_wordsEnding (dC, dI) [(cI, .int)] gm_T [.ref q, .int x1] (wX9_wordsEnding cI q q_ending q_meaning q_cost q_alikeTo q_kind q_want q_saidAhead q_heardWord q_heardAnswer m_words m_people m_said m_undos m_heard m_ending) (some (.int out)) (wX9_wordsEnding cI q q_ending q_meaning q_cost q_alikeTo q_kind q_want q_saidAhead q_heardWord q_heardAnswer m_words m_people m_said m_undos m_heard m_ending) := by
  refine gm_ofW (cc := cX9_wordsEnding) (maxL := 4) (ret := (some .int)) (by decide +kernel) rfl (Nat.le_of_ble_eq_true rfl) ?_
  intro p e s m below meth c A C0 hH ls hl
  generalize ([.ref q, .int x1] : List Value).toArray = args at C0 ⊢
  have hl : lv_has ls 4 [(0, .ref q), (1, .int x1)] := hl
  generalize s.heap = H at hH ⊢
  generalize ([] : List Loc) = locs at hH ⊢
  obtain ⟨hx, hb, hml, hr, hown, hts, hA, hK, hX, hlocks⟩ := id C0
  unfold fX9_wordsEnding at h
  refine lv_iconst (v := 0) hx hb dX9_wordsEnding_0 (by decide) ?_
  refine lv_istore_n (lv' := [(2, .int 0), (0, .ref q), (1, .int x1)]) hx hb dX9_wordsEnding_1 rfl hl (by decide) rfl (fun ls hl => ?_)
  refine lv_iconst (v := 0) hx hb dX9_wordsEnding_2 (by decide) ?_
  refine lv_istore_n (lv' := [(3, .int 0), (2, .int 0), (0, .ref q), (1, .int x1)]) hx hb dX9_wordsEnding_3 rfl hl (by decide) rfl (fun ls hl => ?_)
  unfold fX9_wordsEnding_b4 at h
  exact tX9_wordsEnding_b4 C0  _ _ _ _ _ _ h hH (lv_sub hl [2, 3, 1, 0] rfl)

/-! X9_wordsMeaning -/
abbrev wX9_wordsMeaning (cI : ClassId) (q q_meaning q_ending q_cost q_alikeTo q_kind q_want q_saidAhead q_heardWord q_heardAnswer : Nat) (m_words : Int32) (m_people : Int32) (m_said : Int32) (m_undos : Int32) (m_heard : Int32) (m_meaning : Nat → Int32) : va_W := [(q, .inr (9, [.ref q_ending, .ref q_meaning, .ref q_cost, .int m_words, .ref q_alikeTo, .ref q_kind, .ref q_want, .int m_people, .int m_said, .ref q_saidAhead, .int m_undos, .ref q_heardWord, .ref q_heardAnswer, .int m_heard])), (q_meaning, .inl (cI, 10, .inl m_meaning))]
abbrev rX9_wordsMeaning : Room := { frames := 0, cells := 0, slots := 0, locals := 0 }
def fX9_wordsMeaning_b28 (N : Nat) (r4 : Int32 → Int32 → Option (Int32)) (m_words : Int32) (m_meaning : Nat → Int32) (x1 : Int32) (x2 : Int32) (x3 : Int32) : Option (Int32) := (r4 x2 ((x3 + 1)))
def fX9_wordsMeaning_b4_body (N : Nat)  (m_words : Int32) (m_meaning : Nat → Int32) (x1 : Int32) (r4 : Int32 → Int32 → Option (Int32)) (x2 : Int32) (x3 : Int32) : Option (Int32) := (if m_words ≤ x3 then some (x2) else gm_chk x3 10 ((if (m_meaning (Int32.toNatClampNeg x3)) = x1 then gm_let ((x2 ||| ((1 : Int32) <<< (x3 &&& 31))) : Int32) (fun (v4 : Int32) => (fX9_wordsMeaning_b28 N r4 m_words m_meaning x1 v4 x3)) else (fX9_wordsMeaning_b28 N r4 m_words m_meaning x1 x2 x3))))
def fX9_wordsMeaning_b4 (N : Nat)  (m_words : Int32) (m_meaning : Nat → Int32) (x1 : Int32) (x2 : Int32) (x3 : Int32) : Option (Int32) := gm_fix (fX9_wordsMeaning_b4_body N  m_words m_meaning x1) (fun _ _ => none) N x2 x3
def fX9_wordsMeaning (N : Nat) (m_words : Int32) (m_meaning : Nat → Int32) (x1 : Int32) : Option (Int32) := (fX9_wordsMeaning_b4 N  m_words m_meaning x1 0 0)
set_option maxRecDepth 20000 in
theorem inX9_wordsMeaning_X9 : ∀ w ∈ u_ws RX9 TX9 14, w ∈ wsX9_wordsMeaning := fun w h => by
  obtain ⟨k, hk, rfl⟩ := List.mem_map.mp h
  have hk2 := List.mem_range.mp hk
  exact List.mem_of_getElem? (i := 3 + k) (by rcases (show k = 0 ∨ k = 1 ∨ k = 2 ∨ k = 3 ∨ k = 4 ∨ k = 5 ∨ k = 6 ∨ k = 7 ∨ k = 8 ∨ k = 9 ∨ k = 10 ∨ k = 11 ∨ k = 12 ∨ k = 13 by omega) with rfl | rfl | rfl | rfl | rfl | rfl | rfl | rfl | rfl | rfl | rfl | rfl | rfl | rfl <;> rfl)
set_option maxRecDepth 100000 in
set_option maxHeartbeats 4000000 in
theorem tX9_wordsMeaning_b28 {p : Program} {l : Launch} {e : Env} {s : State} {m : MethodId} {args : Array Value} {below : List Frame} {meth : Method} {c : Code} {A : Nat → Prop} {dC : Nat → ClassId} {dI : Nat → Nat → Nat} {cI : ClassId} {q q_meaning q_ending q_cost q_alikeTo q_kind q_want q_saidAhead q_heardWord q_heardAnswer : Nat} {m_words : Int32} {m_people : Int32} {m_said : Int32} {m_undos : Int32} {m_heard : Int32} {m_meaning : Nat → Int32} {x1 : Int32} {x2 : Int32} {x3 : Int32} (C0 : gm_C p s m args meth c (dC, dI) [(cI, .int)] A gm_T RX9 cX9_wordsMeaning 4 (some .int) wsX9_wordsMeaning) {N : Nat} {out : Int32} {r4 : Int32 → Int32 → Option (Int32)} (hr4 : ∀ (x2 : Int32) (x3 : Int32) (H : Heap) (locs : List Loc) (ls : Array Slot), r4 x2 x3 = some out → gm_H (dC, dI) A s (wX9_wordsMeaning cI q q_meaning q_ending q_cost q_alikeTo q_kind q_want q_saidAhead q_heardWord q_heardAnswer m_words m_people m_said m_undos m_heard m_meaning) H locs → lv_has ls 4 [(0, .ref q), (1, .int x1), (2, .int x2), (3, .int x3)] → W p l e rX9_wordsMeaning s m args below meth c H locs 0 0 (MQ below (gm_Q (dC, dI) [(cI, .int)] A (some (.int out)) (wX9_wordsMeaning cI q q_meaning q_ending q_cost q_alikeTo q_kind q_want q_saidAhead q_heardWord q_heardAnswer m_words m_people m_said m_undos m_heard m_meaning)) args s 0 0 A) (F0 m 4 ls []))   {H : Heap} {locs : List Loc} {ls : Array Slot} (h : fX9_wordsMeaning_b28 N r4 m_words m_meaning x1 x2 x3 = some out) (hH : gm_H (dC, dI) A s (wX9_wordsMeaning cI q q_meaning q_ending q_cost q_alikeTo q_kind q_want q_saidAhead q_heardWord q_heardAnswer m_words m_people m_said m_undos m_heard m_meaning) H locs) (hl : lv_has ls 4 [(0, .ref q), (1, .int x1), (2, .int x2), (3, .int x3)]) : W p l e rX9_wordsMeaning s m args below meth c H locs 0 0 (MQ below (gm_Q (dC, dI) [(cI, .int)] A (some (.int out)) (wX9_wordsMeaning cI q q_meaning q_ending q_cost q_alikeTo q_kind q_want q_saidAhead q_heardWord q_heardAnswer m_words m_people m_said m_undos m_heard m_meaning)) args s 0 0 A) (F0 m 28 ls []) := by
  obtain ⟨hx, hb, hml, hr, hown, hts, hA, hK, hX, hlocks⟩ := id C0
  unfold fX9_wordsMeaning_b28 at h
  refine lv_iinc (v := (x3 + 1)) (lv' := [(3, .int (x3 + 1)), (0, .ref q), (1, .int x1), (2, .int x2)]) hx hb dX9_wordsMeaning_28 hl (k := 3) rfl rfl (by decide) rfl (fun ls hl => ?_)
  refine lv_goto (tgt := 4) hx hb dX9_wordsMeaning_31 (by decide) ?_
  exact hr4 _ _ _ _ _ h hH (lv_sub hl [1, 2, 3, 0] rfl)
set_option maxRecDepth 100000 in
set_option maxHeartbeats 4000000 in
theorem tX9_wordsMeaning_b4 {p : Program} {l : Launch} {e : Env} {s : State} {m : MethodId} {args : Array Value} {below : List Frame} {meth : Method} {c : Code} {A : Nat → Prop} {dC : Nat → ClassId} {dI : Nat → Nat → Nat} {cI : ClassId} {q q_meaning q_ending q_cost q_alikeTo q_kind q_want q_saidAhead q_heardWord q_heardAnswer : Nat} {m_words : Int32} {m_people : Int32} {m_said : Int32} {m_undos : Int32} {m_heard : Int32} {m_meaning : Nat → Int32} {x1 : Int32} (C0 : gm_C p s m args meth c (dC, dI) [(cI, .int)] A gm_T RX9 cX9_wordsMeaning 4 (some .int) wsX9_wordsMeaning) {N : Nat} {out : Int32}   : ∀ (n : Nat), ∀ (x2 : Int32) (x3 : Int32) (H : Heap) (locs : List Loc) (ls : Array Slot), (gm_fix (fX9_wordsMeaning_b4_body N  m_words m_meaning x1) (fun _ _ => none) n) x2 x3 = some out → gm_H (dC, dI) A s (wX9_wordsMeaning cI q q_meaning q_ending q_cost q_alikeTo q_kind q_want q_saidAhead q_heardWord q_heardAnswer m_words m_people m_said m_undos m_heard m_meaning) H locs → lv_has ls 4 [(0, .ref q), (1, .int x1), (2, .int x2), (3, .int x3)] → W p l e rX9_wordsMeaning s m args below meth c H locs 0 0 (MQ below (gm_Q (dC, dI) [(cI, .int)] A (some (.int out)) (wX9_wordsMeaning cI q q_meaning q_ending q_cost q_alikeTo q_kind q_want q_saidAhead q_heardWord q_heardAnswer m_words m_people m_said m_undos m_heard m_meaning)) args s 0 0 A) (F0 m 4 ls []) := by
  obtain ⟨hx, hb, hml, hr, hown, hts, hA, hK, hX, hlocks⟩ := id C0
  intro n
  induction n with
  | zero =>
    intro x2 x3 H locs ls h hH hl
    cases h
  | succ n hr4 =>
    intro x2 x3 H locs ls h hH hl
    rw [gm_fix_s] at h
    unfold fX9_wordsMeaning_b4_body at h
    refine lv_iload_n hx hb dX9_wordsMeaning_4 rfl (lv_at hl 3 rfl) ?_
    refine lv_aload_n hx hb dX9_wordsMeaning_5 rfl (lv_at hl 0 rfl) ?_
    refine gm_get (ci := 9) C0 hH inX9_wordsMeaning_X9 0 3 1 rfl rfl (by decide) rfl rfl dX9_wordsMeaning_6 ?_
    refine lv_icmp_ge (tgt := 34) hx hb dX9_wordsMeaning_9 (by decide) (fun hc1 => ?_) (fun hc1 => ?_)
    · replace h := gm_pos hc1 h
      refine lv_iload_n hx hb dX9_wordsMeaning_34 rfl (lv_at hl 2 rfl) ?_
      obtain rfl := Option.some.inj h
      exact gm_iret C0 hH dX9_wordsMeaning_35
    · replace h := gm_neg hc1 h
      refine lv_aload_n hx hb dX9_wordsMeaning_12 rfl (lv_at hl 0 rfl) ?_
      refine gm_get (ci := 9) C0 hH inX9_wordsMeaning_X9 0 1 2 rfl rfl (by decide) rfl rfl dX9_wordsMeaning_13 ?_
      refine lv_iload_n hx hb dX9_wordsMeaning_16 rfl (lv_at hl 3 rfl) ?_
      obtain ⟨hi2, h⟩ := gm_chk_e h
      refine gm_iald C0 hH hi2 1 0 rfl rfl dX9_wordsMeaning_17 ?_
      refine lv_iload_n hx hb dX9_wordsMeaning_18 rfl (lv_at hl 1 rfl) ?_
      refine lv_icmp_ne (tgt := 28) hx hb dX9_wordsMeaning_19 (by decide) (fun hc3 => ?_) (fun hc3 => ?_)
      · replace h := gm_neg hc3 h
        exact tX9_wordsMeaning_b28 C0 hr4 h hH (lv_sub hl [0, 1, 2, 3] rfl)
      · replace h := gm_pos hc3 h
        refine lv_iload_n hx hb dX9_wordsMeaning_22 rfl (lv_at hl 2 rfl) ?_
        refine lv_iconst (v := 1) hx hb dX9_wordsMeaning_23 (by decide) ?_
        refine lv_iload_n hx hb dX9_wordsMeaning_24 rfl (lv_at hl 3 rfl) ?_
        refine lv_ishl hx hb dX9_wordsMeaning_25 ?_
        refine lv_ior hx hb dX9_wordsMeaning_26 ?_
        refine lv_topi (fun v4 ev4 => ?_)
        replace h := gm_let_e ev4 h
        refine lv_istore_n (lv' := [(2, .int v4), (0, .ref q), (1, .int x1), (3, .int x3)]) hx hb dX9_wordsMeaning_27 rfl hl (by decide) rfl (fun ls hl => ?_)
        exact tX9_wordsMeaning_b28 C0 hr4 h hH (lv_sub hl [1, 2, 0, 3] rfl)
set_option maxRecDepth 100000 in
set_option maxHeartbeats 4000000 in
theorem mX9_wordsMeaning (l : Launch) (dC : Nat → ClassId) (dI : Nat → Nat → Nat) (cI : ClassId) (q q_meaning q_ending q_cost q_alikeTo q_kind q_want q_saidAhead q_heardWord q_heardAnswer : Nat) (m_words : Int32) (m_people : Int32) (m_said : Int32) (m_undos : Int32) (m_heard : Int32) (m_meaning : Nat → Int32) (x1 : Int32)  {N : Nat} {out : Int32} (h : fX9_wordsMeaning N m_words m_meaning x1 = some out) : gm_Met l yX9_wordsMeaning wsX9_wordsMeaning rX9_wordsMeaning (dC, dI) [(cI, .int)] gm_T [.ref q, .int x1] (wX9_wordsMeaning cI q q_meaning q_ending q_cost q_alikeTo q_kind q_want q_saidAhead q_heardWord q_heardAnswer m_words m_people m_said m_undos m_heard m_meaning) (some (.int out)) (wX9_wordsMeaning cI q q_meaning q_ending q_cost q_alikeTo q_kind q_want q_saidAhead q_heardWord q_heardAnswer m_words m_people m_said m_undos m_heard m_meaning) := by
  refine gm_ofW (cc := cX9_wordsMeaning) (maxL := 4) (ret := (some .int)) (by decide +kernel) rfl (Nat.le_of_ble_eq_true rfl) ?_
  intro p e s m below meth c A C0 hH ls hl
  generalize ([.ref q, .int x1] : List Value).toArray = args at C0 ⊢
  have hl : lv_has ls 4 [(0, .ref q), (1, .int x1)] := hl
  generalize s.heap = H at hH ⊢
  generalize ([] : List Loc) = locs at hH ⊢
  obtain ⟨hx, hb, hml, hr, hown, hts, hA, hK, hX, hlocks⟩ := id C0
  unfold fX9_wordsMeaning at h
  refine lv_iconst (v := 0) hx hb dX9_wordsMeaning_0 (by decide) ?_
  refine lv_istore_n (lv' := [(2, .int 0), (0, .ref q), (1, .int x1)]) hx hb dX9_wordsMeaning_1 rfl hl (by decide) rfl (fun ls hl => ?_)
  refine lv_iconst (v := 0) hx hb dX9_wordsMeaning_2 (by decide) ?_
  refine lv_istore_n (lv' := [(3, .int 0), (2, .int 0), (0, .ref q), (1, .int x1)]) hx hb dX9_wordsMeaning_3 rfl hl (by decide) rfl (fun ls hl => ?_)
  unfold fX9_wordsMeaning_b4 at h
  exact tX9_wordsMeaning_b4 C0  _ _ _ _ _ _ h hH (lv_sub hl [2, 3, 1, 0] rfl)

/-! X9_empty -/
abbrev wX9_empty (cI : ClassId) (q q_alikeTo q_ending q_meaning q_cost q_kind q_want q_saidAhead q_heardWord q_heardAnswer : Nat) (m_words : Int32) (m_people : Int32) (m_said : Int32) (m_undos : Int32) (m_heard : Int32) (m_alikeTo : Nat → Int32) : va_W := [(q, .inr (9, [.ref q_ending, .ref q_meaning, .ref q_cost, .int m_words, .ref q_alikeTo, .ref q_kind, .ref q_want, .int m_people, .int m_said, .ref q_saidAhead, .int m_undos, .ref q_heardWord, .ref q_heardAnswer, .int m_heard])), (q_alikeTo, .inl (cI, 8, .inl m_alikeTo))]
abbrev rX9_empty : Room := { frames := 0, cells := 0, slots := 0, locals := 0 }
def fX9_empty_b27_body (N : Nat)  (m_words : Int32) (m_people : Int32) (m_said : Int32) (m_undos : Int32) (m_heard : Int32) (r27 : (Nat → Int32) → Int32 → Option (Int32 × Int32 × Int32 × Int32 × Int32 × (Nat → Int32))) (m_alikeTo : Nat → Int32) (x1 : Int32) : Option (Int32 × Int32 × Int32 × Int32 × Int32 × (Nat → Int32)) := (if 8 ≤ x1 then some (m_words, m_people, m_said, m_undos, m_heard, m_alikeTo) else gm_chk x1 8 ((r27 (upd m_alikeTo (Int32.toNatClampNeg x1) 0) ((x1 + 1)))))
def fX9_empty_b27 (N : Nat)  (m_words : Int32) (m_people : Int32) (m_said : Int32) (m_undos : Int32) (m_heard : Int32) (m_alikeTo : Nat → Int32) (x1 : Int32) : Option (Int32 × Int32 × Int32 × Int32 × Int32 × (Nat → Int32)) := gm_fix (fX9_empty_b27_body N  m_words m_people m_said m_undos m_heard) (fun _ _ => none) N m_alikeTo x1
def fX9_empty (N : Nat) (m_words : Int32) (m_people : Int32) (m_said : Int32) (m_undos : Int32) (m_heard : Int32) (m_alikeTo : Nat → Int32)  : Option (Int32 × Int32 × Int32 × Int32 × Int32 × (Nat → Int32)) := (fX9_empty_b27 N  0 0 0 0 0 m_alikeTo 0)
set_option maxRecDepth 20000 in
theorem inX9_empty_X9 : ∀ w ∈ u_ws RX9 TX9 14, w ∈ wsX9_empty := fun w h => by
  obtain ⟨k, hk, rfl⟩ := List.mem_map.mp h
  have hk2 := List.mem_range.mp hk
  exact List.mem_of_getElem? (i := 7 + k) (by rcases (show k = 0 ∨ k = 1 ∨ k = 2 ∨ k = 3 ∨ k = 4 ∨ k = 5 ∨ k = 6 ∨ k = 7 ∨ k = 8 ∨ k = 9 ∨ k = 10 ∨ k = 11 ∨ k = 12 ∨ k = 13 by omega) with rfl | rfl | rfl | rfl | rfl | rfl | rfl | rfl | rfl | rfl | rfl | rfl | rfl | rfl <;> rfl)
set_option maxRecDepth 100000 in
set_option maxHeartbeats 4000000 in
theorem tX9_empty_b27 {p : Program} {l : Launch} {e : Env} {s : State} {m : MethodId} {args : Array Value} {below : List Frame} {meth : Method} {c : Code} {A : Nat → Prop} {dC : Nat → ClassId} {dI : Nat → Nat → Nat} {cI : ClassId} {q q_alikeTo q_ending q_meaning q_cost q_kind q_want q_saidAhead q_heardWord q_heardAnswer : Nat} {m_words : Int32} {m_people : Int32} {m_said : Int32} {m_undos : Int32} {m_heard : Int32} (C0 : gm_C p s m args meth c (dC, dI) [(cI, .int)] A gm_T RX9 cX9_empty 2 none wsX9_empty) {N : Nat} {out : Int32 × Int32 × Int32 × Int32 × Int32 × (Nat → Int32)}   : ∀ (n : Nat), ∀ (m_alikeTo : Nat → Int32) (x1 : Int32) (H : Heap) (locs : List Loc) (ls : Array Slot), (gm_fix (fX9_empty_b27_body N  m_words m_people m_said m_undos m_heard) (fun _ _ => none) n) m_alikeTo x1 = some out → gm_H (dC, dI) A s (wX9_empty cI q q_alikeTo q_ending q_meaning q_cost q_kind q_want q_saidAhead q_heardWord q_heardAnswer m_words m_people m_said m_undos m_heard m_alikeTo) H locs → lv_has ls 2 [(0, .ref q), (1, .int x1)] → W p l e rX9_empty s m args below meth c H locs 0 0 (MQ below (gm_Q (dC, dI) [(cI, .int)] A none (wX9_empty cI q q_alikeTo q_ending q_meaning q_cost q_kind q_want q_saidAhead q_heardWord q_heardAnswer out.1 out.2.1 out.2.2.1 out.2.2.2.1 out.2.2.2.2.1 out.2.2.2.2.2)) args s 0 0 A) (F0 m 27 ls []) := by
  obtain ⟨hx, hb, hml, hr, hown, hts, hA, hK, hX, hlocks⟩ := id C0
  intro n
  induction n with
  | zero =>
    intro m_alikeTo x1 H locs ls h hH hl
    cases h
  | succ n hr27 =>
    intro m_alikeTo x1 H locs ls h hH hl
    rw [gm_fix_s] at h
    unfold fX9_empty_b27_body at h
    refine lv_iload_n hx hb dX9_empty_27 rfl (lv_at hl 1 rfl) ?_
    refine lv_bipush (v := 8) hx hb dX9_empty_28 (by decide) ?_
    refine lv_icmp_ge (tgt := 46) hx hb dX9_empty_30 (by decide) (fun hc1 => ?_) (fun hc1 => ?_)
    · replace h := gm_pos hc1 h
      obtain rfl := Option.some.inj h
      exact gm_vret C0 hH dX9_empty_46
    · replace h := gm_neg hc1 h
      refine lv_aload_n hx hb dX9_empty_33 rfl (lv_at hl 0 rfl) ?_
      refine gm_get (ci := 9) C0 hH inX9_empty_X9 0 4 6 rfl rfl (by decide) rfl rfl dX9_empty_34 ?_
      refine lv_iload_n hx hb dX9_empty_37 rfl (lv_at hl 1 rfl) ?_
      refine lv_iconst (v := 0) hx hb dX9_empty_38 (by decide) ?_
      obtain ⟨hi2, h⟩ := gm_chk_e h
      refine gm_iast C0 hH hi2 1 0 rfl rfl dX9_empty_39 (fun H locs hH => ?_)
      have hH : gm_H (dC, dI) A s (wX9_empty cI q q_alikeTo q_ending q_meaning q_cost q_kind q_want q_saidAhead q_heardWord q_heardAnswer m_words m_people m_said m_undos m_heard (upd m_alikeTo (Int32.toNatClampNeg x1) 0)) H locs := hH
      refine lv_iinc (v := (x1 + 1)) (lv' := [(1, .int (x1 + 1)), (0, .ref q)]) hx hb dX9_empty_40 hl (k := 1) rfl rfl (by decide) rfl (fun ls hl => ?_)
      refine lv_goto (tgt := 27) hx hb dX9_empty_43 (by decide) ?_
      exact hr27 _ _ _ _ _ h hH (lv_sub hl [1, 0] rfl)
set_option maxRecDepth 100000 in
set_option maxHeartbeats 4000000 in
theorem mX9_empty (l : Launch) (dC : Nat → ClassId) (dI : Nat → Nat → Nat) (cI : ClassId) (q q_alikeTo q_ending q_meaning q_cost q_kind q_want q_saidAhead q_heardWord q_heardAnswer : Nat) (m_words : Int32) (m_people : Int32) (m_said : Int32) (m_undos : Int32) (m_heard : Int32) (m_alikeTo : Nat → Int32)   {N : Nat} {out : Int32 × Int32 × Int32 × Int32 × Int32 × (Nat → Int32)} (h : fX9_empty N m_words m_people m_said m_undos m_heard m_alikeTo = some out) : gm_Met l yX9_empty wsX9_empty rX9_empty (dC, dI) [(cI, .int)] gm_T [.ref q] (wX9_empty cI q q_alikeTo q_ending q_meaning q_cost q_kind q_want q_saidAhead q_heardWord q_heardAnswer m_words m_people m_said m_undos m_heard m_alikeTo) none (wX9_empty cI q q_alikeTo q_ending q_meaning q_cost q_kind q_want q_saidAhead q_heardWord q_heardAnswer out.1 out.2.1 out.2.2.1 out.2.2.2.1 out.2.2.2.2.1 out.2.2.2.2.2) := by
  refine gm_ofW (cc := cX9_empty) (maxL := 2) (ret := none) (by decide +kernel) rfl (Nat.le_of_ble_eq_true rfl) ?_
  intro p e s m below meth c A C0 hH ls hl
  generalize ([.ref q] : List Value).toArray = args at C0 ⊢
  have hl : lv_has ls 2 [(0, .ref q)] := hl
  generalize s.heap = H at hH ⊢
  generalize ([] : List Loc) = locs at hH ⊢
  obtain ⟨hx, hb, hml, hr, hown, hts, hA, hK, hX, hlocks⟩ := id C0
  unfold fX9_empty at h
  refine lv_aload_n hx hb dX9_empty_0 rfl (lv_at hl 0 rfl) ?_
  refine lv_iconst (v := 0) hx hb dX9_empty_1 (by decide) ?_
  refine gm_putf (ci := 9) C0 hH inX9_empty_X9 tyX9_ok nmX9 0 3 1 rfl rfl (by decide) rfl rfl rfl rfl rfl (Nat.le_of_ble_eq_true rfl) dX9_empty_2 (fun H locs hH => ?_)
  have hH : gm_H (dC, dI) A s (wX9_empty cI q q_alikeTo q_ending q_meaning q_cost q_kind q_want q_saidAhead q_heardWord q_heardAnswer 0 m_people m_said m_undos m_heard m_alikeTo) H locs := hH
  refine lv_aload_n hx hb dX9_empty_5 rfl (lv_at hl 0 rfl) ?_
  refine lv_iconst (v := 0) hx hb dX9_empty_6 (by decide) ?_
  refine gm_putf (ci := 9) C0 hH inX9_empty_X9 tyX9_ok nmX9 0 7 2 rfl rfl (by decide) rfl rfl rfl rfl rfl (Nat.le_of_ble_eq_true rfl) dX9_empty_7 (fun H locs hH => ?_)
  have hH : gm_H (dC, dI) A s (wX9_empty cI q q_alikeTo q_ending q_meaning q_cost q_kind q_want q_saidAhead q_heardWord q_heardAnswer 0 0 m_said m_undos m_heard m_alikeTo) H locs := hH
  refine lv_aload_n hx hb dX9_empty_10 rfl (lv_at hl 0 rfl) ?_
  refine lv_iconst (v := 0) hx hb dX9_empty_11 (by decide) ?_
  refine gm_putf (ci := 9) C0 hH inX9_empty_X9 tyX9_ok nmX9 0 8 3 rfl rfl (by decide) rfl rfl rfl rfl rfl (Nat.le_of_ble_eq_true rfl) dX9_empty_12 (fun H locs hH => ?_)
  have hH : gm_H (dC, dI) A s (wX9_empty cI q q_alikeTo q_ending q_meaning q_cost q_kind q_want q_saidAhead q_heardWord q_heardAnswer 0 0 0 m_undos m_heard m_alikeTo) H locs := hH
  refine lv_aload_n hx hb dX9_empty_15 rfl (lv_at hl 0 rfl) ?_
  refine lv_iconst (v := 0) hx hb dX9_empty_16 (by decide) ?_
  refine gm_putf (ci := 9) C0 hH inX9_empty_X9 tyX9_ok nmX9 0 10 4 rfl rfl (by decide) rfl rfl rfl rfl rfl (Nat.le_of_ble_eq_true rfl) dX9_empty_17 (fun H locs hH => ?_)
  have hH : gm_H (dC, dI) A s (wX9_empty cI q q_alikeTo q_ending q_meaning q_cost q_kind q_want q_saidAhead q_heardWord q_heardAnswer 0 0 0 0 m_heard m_alikeTo) H locs := hH
  refine lv_aload_n hx hb dX9_empty_20 rfl (lv_at hl 0 rfl) ?_
  refine lv_iconst (v := 0) hx hb dX9_empty_21 (by decide) ?_
  refine gm_putf (ci := 9) C0 hH inX9_empty_X9 tyX9_ok nmX9 0 13 5 rfl rfl (by decide) rfl rfl rfl rfl rfl (Nat.le_of_ble_eq_true rfl) dX9_empty_22 (fun H locs hH => ?_)
  have hH : gm_H (dC, dI) A s (wX9_empty cI q q_alikeTo q_ending q_meaning q_cost q_kind q_want q_saidAhead q_heardWord q_heardAnswer 0 0 0 0 0 m_alikeTo) H locs := hH
  refine lv_iconst (v := 0) hx hb dX9_empty_25 (by decide) ?_
  refine lv_istore_n (lv' := [(1, .int 0), (0, .ref q)]) hx hb dX9_empty_26 rfl hl (by decide) rfl (fun ls hl => ?_)
  unfold fX9_empty_b27 at h
  exact tX9_empty_b27 C0  _ _ _ _ _ _ h hH (lv_sub hl [1, 0] rfl)

/-! X9_addWord -/
abbrev wX9_addWord (cI : ClassId) (q q_ending q_meaning q_cost q_alikeTo q_kind q_want q_saidAhead q_heardWord q_heardAnswer : Nat) (m_words : Int32) (m_people : Int32) (m_said : Int32) (m_undos : Int32) (m_heard : Int32) (m_ending : Nat → Int32) (m_meaning : Nat → Int32) (m_cost : Nat → Int32) : va_W := [(q, .inr (9, [.ref q_ending, .ref q_meaning, .ref q_cost, .int m_words, .ref q_alikeTo, .ref q_kind, .ref q_want, .int m_people, .int m_said, .ref q_saidAhead, .int m_undos, .ref q_heardWord, .ref q_heardAnswer, .int m_heard])), (q_ending, .inl (cI, 10, .inl m_ending)), (q_meaning, .inl (cI, 10, .inl m_meaning)), (q_cost, .inl (cI, 10, .inl m_cost))]
abbrev rX9_addWord : Room := { frames := 0, cells := 0, slots := 0, locals := 0 }
def fX9_addWord (N : Nat) (m_words : Int32) (m_undos : Int32) (m_ending : Nat → Int32) (m_meaning : Nat → Int32) (m_cost : Nat → Int32) (x1 : Int32) (x2 : Int32) (x3 : Int32) : Option (Int32 × Int32 × Int32 × (Nat → Int32) × (Nat → Int32) × (Nat → Int32)) := (if m_words < 10 then gm_chk m_words 10 (gm_chk m_words 10 (gm_chk m_words 10 (gm_let ((m_words + 1) : Int32) (fun (v5 : Int32) => some (m_words, v5, 0, upd m_ending (Int32.toNatClampNeg m_words) x1, upd m_meaning (Int32.toNatClampNeg m_words) x2, upd m_cost (Int32.toNatClampNeg m_words) x3))))) else some ((-4), m_words, m_undos, m_ending, m_meaning, m_cost))
set_option maxRecDepth 20000 in
theorem inX9_addWord_X9 : ∀ w ∈ u_ws RX9 TX9 14, w ∈ wsX9_addWord := fun w h => by
  obtain ⟨k, hk, rfl⟩ := List.mem_map.mp h
  have hk2 := List.mem_range.mp hk
  exact List.mem_of_getElem? (i := 6 + k) (by rcases (show k = 0 ∨ k = 1 ∨ k = 2 ∨ k = 3 ∨ k = 4 ∨ k = 5 ∨ k = 6 ∨ k = 7 ∨ k = 8 ∨ k = 9 ∨ k = 10 ∨ k = 11 ∨ k = 12 ∨ k = 13 by omega) with rfl | rfl | rfl | rfl | rfl | rfl | rfl | rfl | rfl | rfl | rfl | rfl | rfl | rfl <;> rfl)
set_option maxRecDepth 100000 in
set_option maxHeartbeats 4000000 in
theorem mX9_addWord (l : Launch) (dC : Nat → ClassId) (dI : Nat → Nat → Nat) (cI : ClassId) (q q_ending q_meaning q_cost q_alikeTo q_kind q_want q_saidAhead q_heardWord q_heardAnswer : Nat) (m_words : Int32) (m_people : Int32) (m_said : Int32) (m_undos : Int32) (m_heard : Int32) (m_ending : Nat → Int32) (m_meaning : Nat → Int32) (m_cost : Nat → Int32) (x1 : Int32) (x2 : Int32) (x3 : Int32)  {N : Nat} {out : Int32 × Int32 × Int32 × (Nat → Int32) × (Nat → Int32) × (Nat → Int32)} (h : fX9_addWord N m_words m_undos m_ending m_meaning m_cost x1 x2 x3 = some out) : gm_Met l yX9_addWord wsX9_addWord rX9_addWord (dC, dI) [(cI, .int)] gm_T [.ref q, .int x1, .int x2, .int x3] (wX9_addWord cI q q_ending q_meaning q_cost q_alikeTo q_kind q_want q_saidAhead q_heardWord q_heardAnswer m_words m_people m_said m_undos m_heard m_ending m_meaning m_cost) (some (.int out.1)) (wX9_addWord cI q q_ending q_meaning q_cost q_alikeTo q_kind q_want q_saidAhead q_heardWord q_heardAnswer out.2.1 m_people m_said out.2.2.1 m_heard out.2.2.2.1 out.2.2.2.2.1 out.2.2.2.2.2) := by
  refine gm_ofW (cc := cX9_addWord) (maxL := 4) (ret := (some .int)) (by decide +kernel) rfl (Nat.le_of_ble_eq_true rfl) ?_
  intro p e s m below meth c A C0 hH ls hl
  generalize ([.ref q, .int x1, .int x2, .int x3] : List Value).toArray = args at C0 ⊢
  have hl : lv_has ls 4 [(0, .ref q), (1, .int x1), (2, .int x2), (3, .int x3)] := hl
  generalize s.heap = H at hH ⊢
  generalize ([] : List Loc) = locs at hH ⊢
  obtain ⟨hx, hb, hml, hr, hown, hts, hA, hK, hX, hlocks⟩ := id C0
  unfold fX9_addWord at h
  refine lv_aload_n hx hb dX9_addWord_0 rfl (lv_at hl 0 rfl) ?_
  refine gm_get (ci := 9) C0 hH inX9_addWord_X9 0 3 1 rfl rfl (by decide) rfl rfl dX9_addWord_1 ?_
  refine lv_bipush (v := 10) hx hb dX9_addWord_4 (by decide) ?_
  refine lv_icmp_lt (tgt := 12) hx hb dX9_addWord_6 (by decide) (fun hc1 => ?_) (fun hc1 => ?_)
  · replace h := gm_pos hc1 h
    refine lv_aload_n hx hb dX9_addWord_12 rfl (lv_at hl 0 rfl) ?_
    refine gm_get (ci := 9) C0 hH inX9_addWord_X9 0 0 2 rfl rfl (by decide) rfl rfl dX9_addWord_13 ?_
    refine lv_aload_n hx hb dX9_addWord_16 rfl (lv_at hl 0 rfl) ?_
    refine gm_get (ci := 9) C0 hH inX9_addWord_X9 0 3 1 rfl rfl (by decide) rfl rfl dX9_addWord_17 ?_
    refine lv_iload_n hx hb dX9_addWord_20 rfl (lv_at hl 1 rfl) ?_
    obtain ⟨hi2, h⟩ := gm_chk_e h
    refine gm_iast C0 hH hi2 1 0 rfl rfl dX9_addWord_21 (fun H locs hH => ?_)
    have hH : gm_H (dC, dI) A s (wX9_addWord cI q q_ending q_meaning q_cost q_alikeTo q_kind q_want q_saidAhead q_heardWord q_heardAnswer m_words m_people m_said m_undos m_heard (upd m_ending (Int32.toNatClampNeg m_words) x1) m_meaning m_cost) H locs := hH
    refine lv_aload_n hx hb dX9_addWord_22 rfl (lv_at hl 0 rfl) ?_
    refine gm_get (ci := 9) C0 hH inX9_addWord_X9 0 1 3 rfl rfl (by decide) rfl rfl dX9_addWord_23 ?_
    refine lv_aload_n hx hb dX9_addWord_26 rfl (lv_at hl 0 rfl) ?_
    refine gm_get (ci := 9) C0 hH inX9_addWord_X9 0 3 1 rfl rfl (by decide) rfl rfl dX9_addWord_27 ?_
    refine lv_iload_n hx hb dX9_addWord_30 rfl (lv_at hl 2 rfl) ?_
    obtain ⟨hi3, h⟩ := gm_chk_e h
    refine gm_iast C0 hH hi3 2 0 rfl rfl dX9_addWord_31 (fun H locs hH => ?_)
    have hH : gm_H (dC, dI) A s (wX9_addWord cI q q_ending q_meaning q_cost q_alikeTo q_kind q_want q_saidAhead q_heardWord q_heardAnswer m_words m_people m_said m_undos m_heard (upd m_ending (Int32.toNatClampNeg m_words) x1) (upd m_meaning (Int32.toNatClampNeg m_words) x2) m_cost) H locs := hH
    refine lv_aload_n hx hb dX9_addWord_32 rfl (lv_at hl 0 rfl) ?_
    refine gm_get (ci := 9) C0 hH inX9_addWord_X9 0 2 4 rfl rfl (by decide) rfl rfl dX9_addWord_33 ?_
    refine lv_aload_n hx hb dX9_addWord_36 rfl (lv_at hl 0 rfl) ?_
    refine gm_get (ci := 9) C0 hH inX9_addWord_X9 0 3 1 rfl rfl (by decide) rfl rfl dX9_addWord_37 ?_
    refine lv_iload_n hx hb dX9_addWord_40 rfl (lv_at hl 3 rfl) ?_
    obtain ⟨hi4, h⟩ := gm_chk_e h
    refine gm_iast C0 hH hi4 3 0 rfl rfl dX9_addWord_41 (fun H locs hH => ?_)
    have hH : gm_H (dC, dI) A s (wX9_addWord cI q q_ending q_meaning q_cost q_alikeTo q_kind q_want q_saidAhead q_heardWord q_heardAnswer m_words m_people m_said m_undos m_heard (upd m_ending (Int32.toNatClampNeg m_words) x1) (upd m_meaning (Int32.toNatClampNeg m_words) x2) (upd m_cost (Int32.toNatClampNeg m_words) x3)) H locs := hH
    refine lv_aload_n hx hb dX9_addWord_42 rfl (lv_at hl 0 rfl) ?_
    refine lv_iconst (v := 0) hx hb dX9_addWord_43 (by decide) ?_
    refine gm_putf (ci := 9) C0 hH inX9_addWord_X9 tyX9_ok nmX9 0 10 5 rfl rfl (by decide) rfl rfl rfl rfl rfl (Nat.le_of_ble_eq_true rfl) dX9_addWord_44 (fun H locs hH => ?_)
    have hH : gm_H (dC, dI) A s (wX9_addWord cI q q_ending q_meaning q_cost q_alikeTo q_kind q_want q_saidAhead q_heardWord q_heardAnswer m_words m_people m_said 0 m_heard (upd m_ending (Int32.toNatClampNeg m_words) x1) (upd m_meaning (Int32.toNatClampNeg m_words) x2) (upd m_cost (Int32.toNatClampNeg m_words) x3)) H locs := hH
    refine lv_aload_n hx hb dX9_addWord_47 rfl (lv_at hl 0 rfl) ?_
    refine lv_dup hx hb dX9_addWord_48 rfl ?_
    refine gm_get (ci := 9) C0 hH inX9_addWord_X9 0 3 1 rfl rfl (by decide) rfl rfl dX9_addWord_49 ?_
    refine lv_dup_x1 hx hb dX9_addWord_52 rfl rfl ?_
    refine lv_iconst (v := 1) hx hb dX9_addWord_53 (by decide) ?_
    refine lv_iadd hx hb dX9_addWord_54 ?_
    refine lv_topi (fun v5 ev5 => ?_)
    replace h := gm_let_e ev5 h
    refine gm_putf (ci := 9) C0 hH inX9_addWord_X9 tyX9_ok nmX9 0 3 1 rfl rfl (by decide) rfl rfl rfl rfl rfl (Nat.le_of_ble_eq_true rfl) dX9_addWord_55 (fun H locs hH => ?_)
    have hH : gm_H (dC, dI) A s (wX9_addWord cI q q_ending q_meaning q_cost q_alikeTo q_kind q_want q_saidAhead q_heardWord q_heardAnswer v5 m_people m_said 0 m_heard (upd m_ending (Int32.toNatClampNeg m_words) x1) (upd m_meaning (Int32.toNatClampNeg m_words) x2) (upd m_cost (Int32.toNatClampNeg m_words) x3)) H locs := hH
    obtain rfl := Option.some.inj h
    exact gm_iret C0 hH dX9_addWord_58
  · replace h := gm_neg hc1 h
    refine lv_bipush (v := (-4)) hx hb dX9_addWord_9 (by decide) ?_
    obtain rfl := Option.some.inj h
    exact gm_iret C0 hH dX9_addWord_11

/-! X9_setAlike -/
abbrev wX9_setAlike (cI : ClassId) (q q_alikeTo q_ending q_meaning q_cost q_kind q_want q_saidAhead q_heardWord q_heardAnswer : Nat) (m_words : Int32) (m_people : Int32) (m_said : Int32) (m_undos : Int32) (m_heard : Int32) (m_alikeTo : Nat → Int32) : va_W := [(q, .inr (9, [.ref q_ending, .ref q_meaning, .ref q_cost, .int m_words, .ref q_alikeTo, .ref q_kind, .ref q_want, .int m_people, .int m_said, .ref q_saidAhead, .int m_undos, .ref q_heardWord, .ref q_heardAnswer, .int m_heard])), (q_alikeTo, .inl (cI, 8, .inl m_alikeTo))]
abbrev rX9_setAlike : Room := { frames := 0, cells := 0, slots := 0, locals := 0 }
def fX9_setAlike (N : Nat) (m_alikeTo : Nat → Int32) (x1 : Int32) (x2 : Int32) (x3 : Int32) : Option ((Nat → Int32)) := (if x3 = 0 then gm_chk x1 8 (gm_chk x1 8 (gm_chk x2 8 (gm_chk x2 8 (some (upd (upd m_alikeTo (Int32.toNatClampNeg x1) (((m_alikeTo (Int32.toNatClampNeg x1)) &&& (((1 : Int32) <<< (x2 &&& 31)) ^^^ (-1))))) (Int32.toNatClampNeg x2) ((((upd m_alikeTo (Int32.toNatClampNeg x1) (((m_alikeTo (Int32.toNatClampNeg x1)) &&& (((1 : Int32) <<< (x2 &&& 31)) ^^^ (-1))))) (Int32.toNatClampNeg x2)) &&& (((1 : Int32) <<< (x1 &&& 31)) ^^^ (-1))))))))) else gm_chk x1 8 (gm_chk x1 8 (gm_chk x2 8 (gm_chk x2 8 (some (upd (upd m_alikeTo (Int32.toNatClampNeg x1) (((m_alikeTo (Int32.toNatClampNeg x1)) ||| ((1 : Int32) <<< (x2 &&& 31))))) (Int32.toNatClampNeg x2) ((((upd m_alikeTo (Int32.toNatClampNeg x1) (((m_alikeTo (Int32.toNatClampNeg x1)) ||| ((1 : Int32) <<< (x2 &&& 31))))) (Int32.toNatClampNeg x2)) ||| ((1 : Int32) <<< (x1 &&& 31))))))))))
set_option maxRecDepth 20000 in
theorem inX9_setAlike_X9 : ∀ w ∈ u_ws RX9 TX9 14, w ∈ wsX9_setAlike := fun w h => by
  obtain ⟨k, hk, rfl⟩ := List.mem_map.mp h
  have hk2 := List.mem_range.mp hk
  exact List.mem_of_getElem? (i := 2 + k) (by rcases (show k = 0 ∨ k = 1 ∨ k = 2 ∨ k = 3 ∨ k = 4 ∨ k = 5 ∨ k = 6 ∨ k = 7 ∨ k = 8 ∨ k = 9 ∨ k = 10 ∨ k = 11 ∨ k = 12 ∨ k = 13 by omega) with rfl | rfl | rfl | rfl | rfl | rfl | rfl | rfl | rfl | rfl | rfl | rfl | rfl | rfl <;> rfl)
set_option maxRecDepth 100000 in
set_option maxHeartbeats 4000000 in
theorem mX9_setAlike (l : Launch) (dC : Nat → ClassId) (dI : Nat → Nat → Nat) (cI : ClassId) (q q_alikeTo q_ending q_meaning q_cost q_kind q_want q_saidAhead q_heardWord q_heardAnswer : Nat) (m_words : Int32) (m_people : Int32) (m_said : Int32) (m_undos : Int32) (m_heard : Int32) (m_alikeTo : Nat → Int32) (x1 : Int32) (x2 : Int32) (x3 : Int32)  {N : Nat} {out : (Nat → Int32)} (h : fX9_setAlike N m_alikeTo x1 x2 x3 = some out) : gm_Met l yX9_setAlike wsX9_setAlike rX9_setAlike (dC, dI) [(cI, .int)] gm_T [.ref q, .int x1, .int x2, .int x3] (wX9_setAlike cI q q_alikeTo q_ending q_meaning q_cost q_kind q_want q_saidAhead q_heardWord q_heardAnswer m_words m_people m_said m_undos m_heard m_alikeTo) none (wX9_setAlike cI q q_alikeTo q_ending q_meaning q_cost q_kind q_want q_saidAhead q_heardWord q_heardAnswer m_words m_people m_said m_undos m_heard out) := by
  refine gm_ofW (cc := cX9_setAlike) (maxL := 4) (ret := none) (by decide +kernel) rfl (Nat.le_of_ble_eq_true rfl) ?_
  intro p e s m below meth c A C0 hH ls hl
  generalize ([.ref q, .int x1, .int x2, .int x3] : List Value).toArray = args at C0 ⊢
  have hl : lv_has ls 4 [(0, .ref q), (1, .int x1), (2, .int x2), (3, .int x3)] := hl
  generalize s.heap = H at hH ⊢
  generalize ([] : List Loc) = locs at hH ⊢
  obtain ⟨hx, hb, hml, hr, hown, hts, hA, hK, hX, hlocks⟩ := id C0
  unfold fX9_setAlike at h
  refine lv_iload_n hx hb dX9_setAlike_0 rfl (lv_at hl 3 rfl) ?_
  refine lv_if_eq (tgt := 31) hx hb dX9_setAlike_1 (by decide) (fun hc1 => ?_) (fun hc1 => ?_)
  · replace h := gm_pos hc1 h
    refine lv_aload_n hx hb dX9_setAlike_31 rfl (lv_at hl 0 rfl) ?_
    refine gm_get (ci := 9) C0 hH inX9_setAlike_X9 0 4 1 rfl rfl (by decide) rfl rfl dX9_setAlike_32 ?_
    refine lv_iload_n hx hb dX9_setAlike_35 rfl (lv_at hl 1 rfl) ?_
    refine lv_dup2_11 hx hb dX9_setAlike_36 rfl rfl ?_
    obtain ⟨hi2, h⟩ := gm_chk_e h
    refine gm_iald C0 hH hi2 1 0 rfl rfl dX9_setAlike_37 ?_
    refine lv_iconst (v := 1) hx hb dX9_setAlike_38 (by decide) ?_
    refine lv_iload_n hx hb dX9_setAlike_39 rfl (lv_at hl 2 rfl) ?_
    refine lv_ishl hx hb dX9_setAlike_40 ?_
    refine lv_iconst (v := (-1)) hx hb dX9_setAlike_41 (by decide) ?_
    refine lv_ixor hx hb dX9_setAlike_42 ?_
    refine lv_iand hx hb dX9_setAlike_43 ?_
    obtain ⟨hi3, h⟩ := gm_chk_e h
    refine gm_iast C0 hH hi3 1 0 rfl rfl dX9_setAlike_44 (fun H locs hH => ?_)
    have hH : gm_H (dC, dI) A s (wX9_setAlike cI q q_alikeTo q_ending q_meaning q_cost q_kind q_want q_saidAhead q_heardWord q_heardAnswer m_words m_people m_said m_undos m_heard (upd m_alikeTo (Int32.toNatClampNeg x1) (((m_alikeTo (Int32.toNatClampNeg x1)) &&& (((1 : Int32) <<< (x2 &&& 31)) ^^^ (-1)))))) H locs := hH
    refine lv_aload_n hx hb dX9_setAlike_45 rfl (lv_at hl 0 rfl) ?_
    refine gm_get (ci := 9) C0 hH inX9_setAlike_X9 0 4 1 rfl rfl (by decide) rfl rfl dX9_setAlike_46 ?_
    refine lv_iload_n hx hb dX9_setAlike_49 rfl (lv_at hl 2 rfl) ?_
    refine lv_dup2_11 hx hb dX9_setAlike_50 rfl rfl ?_
    obtain ⟨hi4, h⟩ := gm_chk_e h
    refine gm_iald C0 hH hi4 1 0 rfl rfl dX9_setAlike_51 ?_
    refine lv_iconst (v := 1) hx hb dX9_setAlike_52 (by decide) ?_
    refine lv_iload_n hx hb dX9_setAlike_53 rfl (lv_at hl 1 rfl) ?_
    refine lv_ishl hx hb dX9_setAlike_54 ?_
    refine lv_iconst (v := (-1)) hx hb dX9_setAlike_55 (by decide) ?_
    refine lv_ixor hx hb dX9_setAlike_56 ?_
    refine lv_iand hx hb dX9_setAlike_57 ?_
    obtain ⟨hi5, h⟩ := gm_chk_e h
    refine gm_iast C0 hH hi5 1 0 rfl rfl dX9_setAlike_58 (fun H locs hH => ?_)
    have hH : gm_H (dC, dI) A s (wX9_setAlike cI q q_alikeTo q_ending q_meaning q_cost q_kind q_want q_saidAhead q_heardWord q_heardAnswer m_words m_people m_said m_undos m_heard (upd (upd m_alikeTo (Int32.toNatClampNeg x1) (((m_alikeTo (Int32.toNatClampNeg x1)) &&& (((1 : Int32) <<< (x2 &&& 31)) ^^^ (-1))))) (Int32.toNatClampNeg x2) ((((upd m_alikeTo (Int32.toNatClampNeg x1) (((m_alikeTo (Int32.toNatClampNeg x1)) &&& (((1 : Int32) <<< (x2 &&& 31)) ^^^ (-1))))) (Int32.toNatClampNeg x2)) &&& (((1 : Int32) <<< (x1 &&& 31)) ^^^ (-1)))))) H locs := hH
    obtain rfl := Option.some.inj h
    exact gm_vret C0 hH dX9_setAlike_59
  · replace h := gm_neg hc1 h
    refine lv_aload_n hx hb dX9_setAlike_4 rfl (lv_at hl 0 rfl) ?_
    refine gm_get (ci := 9) C0 hH inX9_setAlike_X9 0 4 1 rfl rfl (by decide) rfl rfl dX9_setAlike_5 ?_
    refine lv_iload_n hx hb dX9_setAlike_8 rfl (lv_at hl 1 rfl) ?_
    refine lv_dup2_11 hx hb dX9_setAlike_9 rfl rfl ?_
    obtain ⟨hi6, h⟩ := gm_chk_e h
    refine gm_iald C0 hH hi6 1 0 rfl rfl dX9_setAlike_10 ?_
    refine lv_iconst (v := 1) hx hb dX9_setAlike_11 (by decide) ?_
    refine lv_iload_n hx hb dX9_setAlike_12 rfl (lv_at hl 2 rfl) ?_
    refine lv_ishl hx hb dX9_setAlike_13 ?_
    refine lv_ior hx hb dX9_setAlike_14 ?_
    obtain ⟨hi7, h⟩ := gm_chk_e h
    refine gm_iast C0 hH hi7 1 0 rfl rfl dX9_setAlike_15 (fun H locs hH => ?_)
    have hH : gm_H (dC, dI) A s (wX9_setAlike cI q q_alikeTo q_ending q_meaning q_cost q_kind q_want q_saidAhead q_heardWord q_heardAnswer m_words m_people m_said m_undos m_heard (upd m_alikeTo (Int32.toNatClampNeg x1) (((m_alikeTo (Int32.toNatClampNeg x1)) ||| ((1 : Int32) <<< (x2 &&& 31)))))) H locs := hH
    refine lv_aload_n hx hb dX9_setAlike_16 rfl (lv_at hl 0 rfl) ?_
    refine gm_get (ci := 9) C0 hH inX9_setAlike_X9 0 4 1 rfl rfl (by decide) rfl rfl dX9_setAlike_17 ?_
    refine lv_iload_n hx hb dX9_setAlike_20 rfl (lv_at hl 2 rfl) ?_
    refine lv_dup2_11 hx hb dX9_setAlike_21 rfl rfl ?_
    obtain ⟨hi8, h⟩ := gm_chk_e h
    refine gm_iald C0 hH hi8 1 0 rfl rfl dX9_setAlike_22 ?_
    refine lv_iconst (v := 1) hx hb dX9_setAlike_23 (by decide) ?_
    refine lv_iload_n hx hb dX9_setAlike_24 rfl (lv_at hl 1 rfl) ?_
    refine lv_ishl hx hb dX9_setAlike_25 ?_
    refine lv_ior hx hb dX9_setAlike_26 ?_
    obtain ⟨hi9, h⟩ := gm_chk_e h
    refine gm_iast C0 hH hi9 1 0 rfl rfl dX9_setAlike_27 (fun H locs hH => ?_)
    have hH : gm_H (dC, dI) A s (wX9_setAlike cI q q_alikeTo q_ending q_meaning q_cost q_kind q_want q_saidAhead q_heardWord q_heardAnswer m_words m_people m_said m_undos m_heard (upd (upd m_alikeTo (Int32.toNatClampNeg x1) (((m_alikeTo (Int32.toNatClampNeg x1)) ||| ((1 : Int32) <<< (x2 &&& 31))))) (Int32.toNatClampNeg x2) ((((upd m_alikeTo (Int32.toNatClampNeg x1) (((m_alikeTo (Int32.toNatClampNeg x1)) ||| ((1 : Int32) <<< (x2 &&& 31))))) (Int32.toNatClampNeg x2)) ||| ((1 : Int32) <<< (x1 &&& 31)))))) H locs := hH
    refine lv_goto (tgt := 59) hx hb dX9_setAlike_28 (by decide) ?_
    obtain rfl := Option.some.inj h
    exact gm_vret C0 hH dX9_setAlike_59

/-! X9_addPerson -/
abbrev wX9_addPerson (cI : ClassId) (q q_kind q_want q_ending q_meaning q_cost q_alikeTo q_saidAhead q_heardWord q_heardAnswer : Nat) (m_words : Int32) (m_people : Int32) (m_said : Int32) (m_undos : Int32) (m_heard : Int32) (m_kind : Nat → Int32) (m_want : Nat → Int32) : va_W := [(q, .inr (9, [.ref q_ending, .ref q_meaning, .ref q_cost, .int m_words, .ref q_alikeTo, .ref q_kind, .ref q_want, .int m_people, .int m_said, .ref q_saidAhead, .int m_undos, .ref q_heardWord, .ref q_heardAnswer, .int m_heard])), (q_kind, .inl (cI, 5, .inl m_kind)), (q_want, .inl (cI, 5, .inl m_want))]
abbrev rX9_addPerson : Room := { frames := 0, cells := 0, slots := 0, locals := 0 }
def fX9_addPerson (N : Nat) (m_people : Int32) (m_kind : Nat → Int32) (m_want : Nat → Int32) (x1 : Int32) (x2 : Int32) : Option (Int32 × Int32 × (Nat → Int32) × (Nat → Int32)) := (if m_people < 5 then gm_chk m_people 5 (gm_chk m_people 5 (gm_let ((m_people + 1) : Int32) (fun (v4 : Int32) => some (m_people, v4, upd m_kind (Int32.toNatClampNeg m_people) x1, upd m_want (Int32.toNatClampNeg m_people) x2)))) else some ((-4), m_people, m_kind, m_want))
set_option maxRecDepth 20000 in
theorem inX9_addPerson_X9 : ∀ w ∈ u_ws RX9 TX9 14, w ∈ wsX9_addPerson := fun w h => by
  obtain ⟨k, hk, rfl⟩ := List.mem_map.mp h
  have hk2 := List.mem_range.mp hk
  exact List.mem_of_getElem? (i := 4 + k) (by rcases (show k = 0 ∨ k = 1 ∨ k = 2 ∨ k = 3 ∨ k = 4 ∨ k = 5 ∨ k = 6 ∨ k = 7 ∨ k = 8 ∨ k = 9 ∨ k = 10 ∨ k = 11 ∨ k = 12 ∨ k = 13 by omega) with rfl | rfl | rfl | rfl | rfl | rfl | rfl | rfl | rfl | rfl | rfl | rfl | rfl | rfl <;> rfl)
set_option maxRecDepth 100000 in
set_option maxHeartbeats 4000000 in
theorem mX9_addPerson (l : Launch) (dC : Nat → ClassId) (dI : Nat → Nat → Nat) (cI : ClassId) (q q_kind q_want q_ending q_meaning q_cost q_alikeTo q_saidAhead q_heardWord q_heardAnswer : Nat) (m_words : Int32) (m_people : Int32) (m_said : Int32) (m_undos : Int32) (m_heard : Int32) (m_kind : Nat → Int32) (m_want : Nat → Int32) (x1 : Int32) (x2 : Int32)  {N : Nat} {out : Int32 × Int32 × (Nat → Int32) × (Nat → Int32)} (h : fX9_addPerson N m_people m_kind m_want x1 x2 = some out) : gm_Met l yX9_addPerson wsX9_addPerson rX9_addPerson (dC, dI) [(cI, .int)] gm_T [.ref q, .int x1, .int x2] (wX9_addPerson cI q q_kind q_want q_ending q_meaning q_cost q_alikeTo q_saidAhead q_heardWord q_heardAnswer m_words m_people m_said m_undos m_heard m_kind m_want) (some (.int out.1)) (wX9_addPerson cI q q_kind q_want q_ending q_meaning q_cost q_alikeTo q_saidAhead q_heardWord q_heardAnswer m_words out.2.1 m_said m_undos m_heard out.2.2.1 out.2.2.2) := by
  refine gm_ofW (cc := cX9_addPerson) (maxL := 3) (ret := (some .int)) (by decide +kernel) rfl (Nat.le_of_ble_eq_true rfl) ?_
  intro p e s m below meth c A C0 hH ls hl
  generalize ([.ref q, .int x1, .int x2] : List Value).toArray = args at C0 ⊢
  have hl : lv_has ls 3 [(0, .ref q), (1, .int x1), (2, .int x2)] := hl
  generalize s.heap = H at hH ⊢
  generalize ([] : List Loc) = locs at hH ⊢
  obtain ⟨hx, hb, hml, hr, hown, hts, hA, hK, hX, hlocks⟩ := id C0
  unfold fX9_addPerson at h
  refine lv_aload_n hx hb dX9_addPerson_0 rfl (lv_at hl 0 rfl) ?_
  refine gm_get (ci := 9) C0 hH inX9_addPerson_X9 0 7 1 rfl rfl (by decide) rfl rfl dX9_addPerson_1 ?_
  refine lv_iconst (v := 5) hx hb dX9_addPerson_4 (by decide) ?_
  refine lv_icmp_lt (tgt := 11) hx hb dX9_addPerson_5 (by decide) (fun hc1 => ?_) (fun hc1 => ?_)
  · replace h := gm_pos hc1 h
    refine lv_aload_n hx hb dX9_addPerson_11 rfl (lv_at hl 0 rfl) ?_
    refine gm_get (ci := 9) C0 hH inX9_addPerson_X9 0 5 2 rfl rfl (by decide) rfl rfl dX9_addPerson_12 ?_
    refine lv_aload_n hx hb dX9_addPerson_15 rfl (lv_at hl 0 rfl) ?_
    refine gm_get (ci := 9) C0 hH inX9_addPerson_X9 0 7 1 rfl rfl (by decide) rfl rfl dX9_addPerson_16 ?_
    refine lv_iload_n hx hb dX9_addPerson_19 rfl (lv_at hl 1 rfl) ?_
    obtain ⟨hi2, h⟩ := gm_chk_e h
    refine gm_iast C0 hH hi2 1 0 rfl rfl dX9_addPerson_20 (fun H locs hH => ?_)
    have hH : gm_H (dC, dI) A s (wX9_addPerson cI q q_kind q_want q_ending q_meaning q_cost q_alikeTo q_saidAhead q_heardWord q_heardAnswer m_words m_people m_said m_undos m_heard (upd m_kind (Int32.toNatClampNeg m_people) x1) m_want) H locs := hH
    refine lv_aload_n hx hb dX9_addPerson_21 rfl (lv_at hl 0 rfl) ?_
    refine gm_get (ci := 9) C0 hH inX9_addPerson_X9 0 6 3 rfl rfl (by decide) rfl rfl dX9_addPerson_22 ?_
    refine lv_aload_n hx hb dX9_addPerson_25 rfl (lv_at hl 0 rfl) ?_
    refine gm_get (ci := 9) C0 hH inX9_addPerson_X9 0 7 1 rfl rfl (by decide) rfl rfl dX9_addPerson_26 ?_
    refine lv_iload_n hx hb dX9_addPerson_29 rfl (lv_at hl 2 rfl) ?_
    obtain ⟨hi3, h⟩ := gm_chk_e h
    refine gm_iast C0 hH hi3 2 0 rfl rfl dX9_addPerson_30 (fun H locs hH => ?_)
    have hH : gm_H (dC, dI) A s (wX9_addPerson cI q q_kind q_want q_ending q_meaning q_cost q_alikeTo q_saidAhead q_heardWord q_heardAnswer m_words m_people m_said m_undos m_heard (upd m_kind (Int32.toNatClampNeg m_people) x1) (upd m_want (Int32.toNatClampNeg m_people) x2)) H locs := hH
    refine lv_aload_n hx hb dX9_addPerson_31 rfl (lv_at hl 0 rfl) ?_
    refine lv_dup hx hb dX9_addPerson_32 rfl ?_
    refine gm_get (ci := 9) C0 hH inX9_addPerson_X9 0 7 1 rfl rfl (by decide) rfl rfl dX9_addPerson_33 ?_
    refine lv_dup_x1 hx hb dX9_addPerson_36 rfl rfl ?_
    refine lv_iconst (v := 1) hx hb dX9_addPerson_37 (by decide) ?_
    refine lv_iadd hx hb dX9_addPerson_38 ?_
    refine lv_topi (fun v4 ev4 => ?_)
    replace h := gm_let_e ev4 h
    refine gm_putf (ci := 9) C0 hH inX9_addPerson_X9 tyX9_ok nmX9 0 7 1 rfl rfl (by decide) rfl rfl rfl rfl rfl (Nat.le_of_ble_eq_true rfl) dX9_addPerson_39 (fun H locs hH => ?_)
    have hH : gm_H (dC, dI) A s (wX9_addPerson cI q q_kind q_want q_ending q_meaning q_cost q_alikeTo q_saidAhead q_heardWord q_heardAnswer m_words v4 m_said m_undos m_heard (upd m_kind (Int32.toNatClampNeg m_people) x1) (upd m_want (Int32.toNatClampNeg m_people) x2)) H locs := hH
    obtain rfl := Option.some.inj h
    exact gm_iret C0 hH dX9_addPerson_42
  · replace h := gm_neg hc1 h
    refine lv_bipush (v := (-4)) hx hb dX9_addPerson_8 (by decide) ?_
    obtain rfl := Option.some.inj h
    exact gm_iret C0 hH dX9_addPerson_10

/-! X9_copyFrom -/
abbrev wX9_copyFrom (cI : ClassId) (q q_ending q_meaning q_cost q_alikeTo q_kind q_want q_saidAhead q_heardWord q_heardAnswer q_a1 q_a1_ending q_a1_meaning q_a1_cost q_a1_alikeTo q_a1_kind q_a1_want q_a1_saidAhead q_a1_heardWord q_a1_heardAnswer : Nat) (m_words : Int32) (m_people : Int32) (m_said : Int32) (m_undos : Int32) (m_heard : Int32) (m_ending : Nat → Int32) (m_meaning : Nat → Int32) (m_cost : Nat → Int32) (m_alikeTo : Nat → Int32) (m_kind : Nat → Int32) (m_want : Nat → Int32) (m_saidAhead : Nat → Int32) (m_heardWord : Nat → Int32) (m_heardAnswer : Nat → Int32) (m_a1_words : Int32) (m_a1_people : Int32) (m_a1_said : Int32) (m_a1_undos : Int32) (m_a1_heard : Int32) (m_a1_ending : Nat → Int32) (m_a1_meaning : Nat → Int32) (m_a1_cost : Nat → Int32) (m_a1_alikeTo : Nat → Int32) (m_a1_kind : Nat → Int32) (m_a1_want : Nat → Int32) (m_a1_saidAhead : Nat → Int32) (m_a1_heardWord : Nat → Int32) (m_a1_heardAnswer : Nat → Int32) : va_W := [(q, .inr (9, [.ref q_ending, .ref q_meaning, .ref q_cost, .int m_words, .ref q_alikeTo, .ref q_kind, .ref q_want, .int m_people, .int m_said, .ref q_saidAhead, .int m_undos, .ref q_heardWord, .ref q_heardAnswer, .int m_heard])), (q_ending, .inl (cI, 10, .inl m_ending)), (q_meaning, .inl (cI, 10, .inl m_meaning)), (q_cost, .inl (cI, 10, .inl m_cost)), (q_alikeTo, .inl (cI, 8, .inl m_alikeTo)), (q_kind, .inl (cI, 5, .inl m_kind)), (q_want, .inl (cI, 5, .inl m_want)), (q_saidAhead, .inl (cI, 8, .inl m_saidAhead)), (q_heardWord, .inl (cI, 6, .inl m_heardWord)), (q_heardAnswer, .inl (cI, 6, .inl m_heardAnswer)), (q_a1, .inr (9, [.ref q_a1_ending, .ref q_a1_meaning, .ref q_a1_cost, .int m_a1_words, .ref q_a1_alikeTo, .ref q_a1_kind, .ref q_a1_want, .int m_a1_people, .int m_a1_said, .ref q_a1_saidAhead, .int m_a1_undos, .ref q_a1_heardWord, .ref q_a1_heardAnswer, .int m_a1_heard])), (q_a1_ending, .inl (cI, 10, .inl m_a1_ending)), (q_a1_meaning, .inl (cI, 10, .inl m_a1_meaning)), (q_a1_cost, .inl (cI, 10, .inl m_a1_cost)), (q_a1_alikeTo, .inl (cI, 8, .inl m_a1_alikeTo)), (q_a1_kind, .inl (cI, 5, .inl m_a1_kind)), (q_a1_want, .inl (cI, 5, .inl m_a1_want)), (q_a1_saidAhead, .inl (cI, 8, .inl m_a1_saidAhead)), (q_a1_heardWord, .inl (cI, 6, .inl m_a1_heardWord)), (q_a1_heardAnswer, .inl (cI, 6, .inl m_a1_heardAnswer))]
abbrev rX9_copyFrom : Room := { frames := 1, cells := 0, slots := 0, locals := 26 }
def fX9_copyFrom (N : Nat) (m_words : Int32) (m_people : Int32) (m_said : Int32) (m_undos : Int32) (m_heard : Int32) (m_ending : Nat → Int32) (m_meaning : Nat → Int32) (m_cost : Nat → Int32) (m_alikeTo : Nat → Int32) (m_kind : Nat → Int32) (m_want : Nat → Int32) (m_saidAhead : Nat → Int32) (m_heardWord : Nat → Int32) (m_heardAnswer : Nat → Int32) (m_a1_words : Int32) (m_a1_people : Int32) (m_a1_said : Int32) (m_a1_undos : Int32) (m_a1_heard : Int32) (m_a1_ending : Nat → Int32) (m_a1_meaning : Nat → Int32) (m_a1_cost : Nat → Int32) (m_a1_alikeTo : Nat → Int32) (m_a1_kind : Nat → Int32) (m_a1_want : Nat → Int32) (m_a1_saidAhead : Nat → Int32) (m_a1_heardWord : Nat → Int32) (m_a1_heardAnswer : Nat → Int32)  : Option (Int32 × Int32 × Int32 × Int32 × Int32 × (Nat → Int32) × (Nat → Int32) × (Nat → Int32) × (Nat → Int32) × (Nat → Int32) × (Nat → Int32) × (Nat → Int32) × (Nat → Int32) × (Nat → Int32)) := some (m_a1_words, m_a1_people, m_a1_said, m_a1_undos, m_a1_heard, va_cpy m_a1_ending m_ending (0 : Int32).toNatClampNeg (0 : Int32).toNatClampNeg (10 : Int32).toNatClampNeg, va_cpy m_a1_meaning m_meaning (0 : Int32).toNatClampNeg (0 : Int32).toNatClampNeg (10 : Int32).toNatClampNeg, va_cpy m_a1_cost m_cost (0 : Int32).toNatClampNeg (0 : Int32).toNatClampNeg (10 : Int32).toNatClampNeg, va_cpy m_a1_alikeTo m_alikeTo (0 : Int32).toNatClampNeg (0 : Int32).toNatClampNeg (8 : Int32).toNatClampNeg, va_cpy m_a1_kind m_kind (0 : Int32).toNatClampNeg (0 : Int32).toNatClampNeg (5 : Int32).toNatClampNeg, va_cpy m_a1_want m_want (0 : Int32).toNatClampNeg (0 : Int32).toNatClampNeg (5 : Int32).toNatClampNeg, va_cpy m_a1_saidAhead m_saidAhead (0 : Int32).toNatClampNeg (0 : Int32).toNatClampNeg (8 : Int32).toNatClampNeg, va_cpy m_a1_heardWord m_heardWord (0 : Int32).toNatClampNeg (0 : Int32).toNatClampNeg (6 : Int32).toNatClampNeg, va_cpy m_a1_heardAnswer m_heardAnswer (0 : Int32).toNatClampNeg (0 : Int32).toNatClampNeg (6 : Int32).toNatClampNeg)
set_option maxRecDepth 20000 in
theorem inX9_copyFrom_X9 : ∀ w ∈ u_ws RX9 TX9 14, w ∈ wsX9_copyFrom := fun w h => by
  obtain ⟨k, hk, rfl⟩ := List.mem_map.mp h
  have hk2 := List.mem_range.mp hk
  exact List.mem_of_getElem? (i := 19 + k) (by rcases (show k = 0 ∨ k = 1 ∨ k = 2 ∨ k = 3 ∨ k = 4 ∨ k = 5 ∨ k = 6 ∨ k = 7 ∨ k = 8 ∨ k = 9 ∨ k = 10 ∨ k = 11 ∨ k = 12 ∨ k = 13 by omega) with rfl | rfl | rfl | rfl | rfl | rfl | rfl | rfl | rfl | rfl | rfl | rfl | rfl | rfl <;> rfl)
set_option maxRecDepth 100000 in
set_option maxHeartbeats 4000000 in
theorem mX9_copyFrom (l : Launch) (dC : Nat → ClassId) (dI : Nat → Nat → Nat) (cI : ClassId) (q q_ending q_meaning q_cost q_alikeTo q_kind q_want q_saidAhead q_heardWord q_heardAnswer q_a1 q_a1_ending q_a1_meaning q_a1_cost q_a1_alikeTo q_a1_kind q_a1_want q_a1_saidAhead q_a1_heardWord q_a1_heardAnswer : Nat) (m_words : Int32) (m_people : Int32) (m_said : Int32) (m_undos : Int32) (m_heard : Int32) (m_ending : Nat → Int32) (m_meaning : Nat → Int32) (m_cost : Nat → Int32) (m_alikeTo : Nat → Int32) (m_kind : Nat → Int32) (m_want : Nat → Int32) (m_saidAhead : Nat → Int32) (m_heardWord : Nat → Int32) (m_heardAnswer : Nat → Int32) (m_a1_words : Int32) (m_a1_people : Int32) (m_a1_said : Int32) (m_a1_undos : Int32) (m_a1_heard : Int32) (m_a1_ending : Nat → Int32) (m_a1_meaning : Nat → Int32) (m_a1_cost : Nat → Int32) (m_a1_alikeTo : Nat → Int32) (m_a1_kind : Nat → Int32) (m_a1_want : Nat → Int32) (m_a1_saidAhead : Nat → Int32) (m_a1_heardWord : Nat → Int32) (m_a1_heardAnswer : Nat → Int32)   {N : Nat} {out : Int32 × Int32 × Int32 × Int32 × Int32 × (Nat → Int32) × (Nat → Int32) × (Nat → Int32) × (Nat → Int32) × (Nat → Int32) × (Nat → Int32) × (Nat → Int32) × (Nat → Int32) × (Nat → Int32)} (h : fX9_copyFrom N m_words m_people m_said m_undos m_heard m_ending m_meaning m_cost m_alikeTo m_kind m_want m_saidAhead m_heardWord m_heardAnswer m_a1_words m_a1_people m_a1_said m_a1_undos m_a1_heard m_a1_ending m_a1_meaning m_a1_cost m_a1_alikeTo m_a1_kind m_a1_want m_a1_saidAhead m_a1_heardWord m_a1_heardAnswer = some out) : gm_Met l yX9_copyFrom wsX9_copyFrom rX9_copyFrom (dC, dI) [(cI, .int)] gm_T [.ref q, .ref q_a1] (wX9_copyFrom cI q q_ending q_meaning q_cost q_alikeTo q_kind q_want q_saidAhead q_heardWord q_heardAnswer q_a1 q_a1_ending q_a1_meaning q_a1_cost q_a1_alikeTo q_a1_kind q_a1_want q_a1_saidAhead q_a1_heardWord q_a1_heardAnswer m_words m_people m_said m_undos m_heard m_ending m_meaning m_cost m_alikeTo m_kind m_want m_saidAhead m_heardWord m_heardAnswer m_a1_words m_a1_people m_a1_said m_a1_undos m_a1_heard m_a1_ending m_a1_meaning m_a1_cost m_a1_alikeTo m_a1_kind m_a1_want m_a1_saidAhead m_a1_heardWord m_a1_heardAnswer) none (wX9_copyFrom cI q q_ending q_meaning q_cost q_alikeTo q_kind q_want q_saidAhead q_heardWord q_heardAnswer q_a1 q_a1_ending q_a1_meaning q_a1_cost q_a1_alikeTo q_a1_kind q_a1_want q_a1_saidAhead q_a1_heardWord q_a1_heardAnswer out.1 out.2.1 out.2.2.1 out.2.2.2.1 out.2.2.2.2.1 out.2.2.2.2.2.1 out.2.2.2.2.2.2.1 out.2.2.2.2.2.2.2.1 out.2.2.2.2.2.2.2.2.1 out.2.2.2.2.2.2.2.2.2.1 out.2.2.2.2.2.2.2.2.2.2.1 out.2.2.2.2.2.2.2.2.2.2.2.1 out.2.2.2.2.2.2.2.2.2.2.2.2.1 out.2.2.2.2.2.2.2.2.2.2.2.2.2 m_a1_words m_a1_people m_a1_said m_a1_undos m_a1_heard m_a1_ending m_a1_meaning m_a1_cost m_a1_alikeTo m_a1_kind m_a1_want m_a1_saidAhead m_a1_heardWord m_a1_heardAnswer) := by
  refine gm_ofW (cc := cX9_copyFrom) (maxL := 2) (ret := none) (by decide +kernel) rfl (Nat.le_of_ble_eq_true rfl) ?_
  intro p e s m below meth c A C0 hH ls hl
  generalize ([.ref q, .ref q_a1] : List Value).toArray = args at C0 ⊢
  have hl : lv_has ls 2 [(0, .ref q), (1, .ref q_a1)] := hl
  generalize s.heap = H at hH ⊢
  generalize ([] : List Loc) = locs at hH ⊢
  obtain ⟨hx, hb, hml, hr, hown, hts, hA, hK, hX, hlocks⟩ := id C0
  unfold fX9_copyFrom at h
  refine lv_aload_n hx hb dX9_copyFrom_0 rfl (lv_at hl 1 rfl) ?_
  refine gm_get (ci := 9) C0 hH inX9_copyFrom_X9 10 0 1 rfl rfl (by decide) rfl rfl dX9_copyFrom_1 ?_
  refine lv_iconst (v := 0) hx hb dX9_copyFrom_4 (by decide) ?_
  refine lv_aload_n hx hb dX9_copyFrom_5 rfl (lv_at hl 0 rfl) ?_
  refine gm_get (ci := 9) C0 hH inX9_copyFrom_X9 0 0 1 rfl rfl (by decide) rfl rfl dX9_copyFrom_6 ?_
  refine lv_iconst (v := 0) hx hb dX9_copyFrom_9 (by decide) ?_
  refine lv_bipush (v := 10) hx hb dX9_copyFrom_10 (by decide) ?_
  refine va_copyi (sp := 0) (dp := 0) (n := 10) (ty := .int) hx hb (by rw [hml]; exact hl.1.symm) hown (gm_at C0 2 rfl) (gm_at C0 3 rfl) (gm_at C0 4 rfl) (gm_at C0 5 rfl) hK hH.1 hH.2.1 hH.2.2 11 1 0 0 rfl rfl rfl rfl rfl (by decide) (by decide) (by decide) (by decide) (by decide) (fun _ _ => rfl) (by decide) (by decide) dX9_copyFrom_12 (fun H locs h1 h2 h3 => ?_)
  have hH : gm_H (dC, dI) A s (wX9_copyFrom cI q q_ending q_meaning q_cost q_alikeTo q_kind q_want q_saidAhead q_heardWord q_heardAnswer q_a1 q_a1_ending q_a1_meaning q_a1_cost q_a1_alikeTo q_a1_kind q_a1_want q_a1_saidAhead q_a1_heardWord q_a1_heardAnswer m_words m_people m_said m_undos m_heard (va_cpy m_a1_ending m_ending (0 : Int32).toNatClampNeg (0 : Int32).toNatClampNeg (10 : Int32).toNatClampNeg) m_meaning m_cost m_alikeTo m_kind m_want m_saidAhead m_heardWord m_heardAnswer m_a1_words m_a1_people m_a1_said m_a1_undos m_a1_heard m_a1_ending m_a1_meaning m_a1_cost m_a1_alikeTo m_a1_kind m_a1_want m_a1_saidAhead m_a1_heardWord m_a1_heardAnswer) H locs := ⟨h1, h2, h3⟩
  refine lv_aload_n hx hb dX9_copyFrom_15 rfl (lv_at hl 1 rfl) ?_
  refine gm_get (ci := 9) C0 hH inX9_copyFrom_X9 10 1 6 rfl rfl (by decide) rfl rfl dX9_copyFrom_16 ?_
  refine lv_iconst (v := 0) hx hb dX9_copyFrom_19 (by decide) ?_
  refine lv_aload_n hx hb dX9_copyFrom_20 rfl (lv_at hl 0 rfl) ?_
  refine gm_get (ci := 9) C0 hH inX9_copyFrom_X9 0 1 6 rfl rfl (by decide) rfl rfl dX9_copyFrom_21 ?_
  refine lv_iconst (v := 0) hx hb dX9_copyFrom_24 (by decide) ?_
  refine lv_bipush (v := 10) hx hb dX9_copyFrom_25 (by decide) ?_
  refine va_copyi (sp := 0) (dp := 0) (n := 10) (ty := .int) hx hb (by rw [hml]; exact hl.1.symm) hown (gm_at C0 2 rfl) (gm_at C0 3 rfl) (gm_at C0 4 rfl) (gm_at C0 5 rfl) hK hH.1 hH.2.1 hH.2.2 12 2 0 0 rfl rfl rfl rfl rfl (by decide) (by decide) (by decide) (by decide) (by decide) (fun _ _ => rfl) (by decide) (by decide) dX9_copyFrom_27 (fun H locs h1 h2 h3 => ?_)
  have hH : gm_H (dC, dI) A s (wX9_copyFrom cI q q_ending q_meaning q_cost q_alikeTo q_kind q_want q_saidAhead q_heardWord q_heardAnswer q_a1 q_a1_ending q_a1_meaning q_a1_cost q_a1_alikeTo q_a1_kind q_a1_want q_a1_saidAhead q_a1_heardWord q_a1_heardAnswer m_words m_people m_said m_undos m_heard (va_cpy m_a1_ending m_ending (0 : Int32).toNatClampNeg (0 : Int32).toNatClampNeg (10 : Int32).toNatClampNeg) (va_cpy m_a1_meaning m_meaning (0 : Int32).toNatClampNeg (0 : Int32).toNatClampNeg (10 : Int32).toNatClampNeg) m_cost m_alikeTo m_kind m_want m_saidAhead m_heardWord m_heardAnswer m_a1_words m_a1_people m_a1_said m_a1_undos m_a1_heard m_a1_ending m_a1_meaning m_a1_cost m_a1_alikeTo m_a1_kind m_a1_want m_a1_saidAhead m_a1_heardWord m_a1_heardAnswer) H locs := ⟨h1, h2, h3⟩
  refine lv_aload_n hx hb dX9_copyFrom_30 rfl (lv_at hl 1 rfl) ?_
  refine gm_get (ci := 9) C0 hH inX9_copyFrom_X9 10 2 7 rfl rfl (by decide) rfl rfl dX9_copyFrom_31 ?_
  refine lv_iconst (v := 0) hx hb dX9_copyFrom_34 (by decide) ?_
  refine lv_aload_n hx hb dX9_copyFrom_35 rfl (lv_at hl 0 rfl) ?_
  refine gm_get (ci := 9) C0 hH inX9_copyFrom_X9 0 2 7 rfl rfl (by decide) rfl rfl dX9_copyFrom_36 ?_
  refine lv_iconst (v := 0) hx hb dX9_copyFrom_39 (by decide) ?_
  refine lv_bipush (v := 10) hx hb dX9_copyFrom_40 (by decide) ?_
  refine va_copyi (sp := 0) (dp := 0) (n := 10) (ty := .int) hx hb (by rw [hml]; exact hl.1.symm) hown (gm_at C0 2 rfl) (gm_at C0 3 rfl) (gm_at C0 4 rfl) (gm_at C0 5 rfl) hK hH.1 hH.2.1 hH.2.2 13 3 0 0 rfl rfl rfl rfl rfl (by decide) (by decide) (by decide) (by decide) (by decide) (fun _ _ => rfl) (by decide) (by decide) dX9_copyFrom_42 (fun H locs h1 h2 h3 => ?_)
  have hH : gm_H (dC, dI) A s (wX9_copyFrom cI q q_ending q_meaning q_cost q_alikeTo q_kind q_want q_saidAhead q_heardWord q_heardAnswer q_a1 q_a1_ending q_a1_meaning q_a1_cost q_a1_alikeTo q_a1_kind q_a1_want q_a1_saidAhead q_a1_heardWord q_a1_heardAnswer m_words m_people m_said m_undos m_heard (va_cpy m_a1_ending m_ending (0 : Int32).toNatClampNeg (0 : Int32).toNatClampNeg (10 : Int32).toNatClampNeg) (va_cpy m_a1_meaning m_meaning (0 : Int32).toNatClampNeg (0 : Int32).toNatClampNeg (10 : Int32).toNatClampNeg) (va_cpy m_a1_cost m_cost (0 : Int32).toNatClampNeg (0 : Int32).toNatClampNeg (10 : Int32).toNatClampNeg) m_alikeTo m_kind m_want m_saidAhead m_heardWord m_heardAnswer m_a1_words m_a1_people m_a1_said m_a1_undos m_a1_heard m_a1_ending m_a1_meaning m_a1_cost m_a1_alikeTo m_a1_kind m_a1_want m_a1_saidAhead m_a1_heardWord m_a1_heardAnswer) H locs := ⟨h1, h2, h3⟩
  refine lv_aload_n hx hb dX9_copyFrom_45 rfl (lv_at hl 0 rfl) ?_
  refine lv_aload_n hx hb dX9_copyFrom_46 rfl (lv_at hl 1 rfl) ?_
  refine gm_get (ci := 9) C0 hH inX9_copyFrom_X9 10 3 8 rfl rfl (by decide) rfl rfl dX9_copyFrom_47 ?_
  refine gm_putf (ci := 9) C0 hH inX9_copyFrom_X9 tyX9_ok nmX9 0 3 8 rfl rfl (by decide) rfl rfl rfl rfl rfl (Nat.le_of_ble_eq_true rfl) dX9_copyFrom_50 (fun H locs hH => ?_)
  have hH : gm_H (dC, dI) A s (wX9_copyFrom cI q q_ending q_meaning q_cost q_alikeTo q_kind q_want q_saidAhead q_heardWord q_heardAnswer q_a1 q_a1_ending q_a1_meaning q_a1_cost q_a1_alikeTo q_a1_kind q_a1_want q_a1_saidAhead q_a1_heardWord q_a1_heardAnswer m_a1_words m_people m_said m_undos m_heard (va_cpy m_a1_ending m_ending (0 : Int32).toNatClampNeg (0 : Int32).toNatClampNeg (10 : Int32).toNatClampNeg) (va_cpy m_a1_meaning m_meaning (0 : Int32).toNatClampNeg (0 : Int32).toNatClampNeg (10 : Int32).toNatClampNeg) (va_cpy m_a1_cost m_cost (0 : Int32).toNatClampNeg (0 : Int32).toNatClampNeg (10 : Int32).toNatClampNeg) m_alikeTo m_kind m_want m_saidAhead m_heardWord m_heardAnswer m_a1_words m_a1_people m_a1_said m_a1_undos m_a1_heard m_a1_ending m_a1_meaning m_a1_cost m_a1_alikeTo m_a1_kind m_a1_want m_a1_saidAhead m_a1_heardWord m_a1_heardAnswer) H locs := hH
  refine lv_aload_n hx hb dX9_copyFrom_53 rfl (lv_at hl 1 rfl) ?_
  refine gm_get (ci := 9) C0 hH inX9_copyFrom_X9 10 4 9 rfl rfl (by decide) rfl rfl dX9_copyFrom_54 ?_
  refine lv_iconst (v := 0) hx hb dX9_copyFrom_57 (by decide) ?_
  refine lv_aload_n hx hb dX9_copyFrom_58 rfl (lv_at hl 0 rfl) ?_
  refine gm_get (ci := 9) C0 hH inX9_copyFrom_X9 0 4 9 rfl rfl (by decide) rfl rfl dX9_copyFrom_59 ?_
  refine lv_iconst (v := 0) hx hb dX9_copyFrom_62 (by decide) ?_
  refine lv_bipush (v := 8) hx hb dX9_copyFrom_63 (by decide) ?_
  refine va_copyi (sp := 0) (dp := 0) (n := 8) (ty := .int) hx hb (by rw [hml]; exact hl.1.symm) hown (gm_at C0 2 rfl) (gm_at C0 3 rfl) (gm_at C0 4 rfl) (gm_at C0 5 rfl) hK hH.1 hH.2.1 hH.2.2 14 4 0 0 rfl rfl rfl rfl rfl (by decide) (by decide) (by decide) (by decide) (by decide) (fun _ _ => rfl) (by decide) (by decide) dX9_copyFrom_65 (fun H locs h1 h2 h3 => ?_)
  have hH : gm_H (dC, dI) A s (wX9_copyFrom cI q q_ending q_meaning q_cost q_alikeTo q_kind q_want q_saidAhead q_heardWord q_heardAnswer q_a1 q_a1_ending q_a1_meaning q_a1_cost q_a1_alikeTo q_a1_kind q_a1_want q_a1_saidAhead q_a1_heardWord q_a1_heardAnswer m_a1_words m_people m_said m_undos m_heard (va_cpy m_a1_ending m_ending (0 : Int32).toNatClampNeg (0 : Int32).toNatClampNeg (10 : Int32).toNatClampNeg) (va_cpy m_a1_meaning m_meaning (0 : Int32).toNatClampNeg (0 : Int32).toNatClampNeg (10 : Int32).toNatClampNeg) (va_cpy m_a1_cost m_cost (0 : Int32).toNatClampNeg (0 : Int32).toNatClampNeg (10 : Int32).toNatClampNeg) (va_cpy m_a1_alikeTo m_alikeTo (0 : Int32).toNatClampNeg (0 : Int32).toNatClampNeg (8 : Int32).toNatClampNeg) m_kind m_want m_saidAhead m_heardWord m_heardAnswer m_a1_words m_a1_people m_a1_said m_a1_undos m_a1_heard m_a1_ending m_a1_meaning m_a1_cost m_a1_alikeTo m_a1_kind m_a1_want m_a1_saidAhead m_a1_heardWord m_a1_heardAnswer) H locs := ⟨h1, h2, h3⟩
  refine lv_aload_n hx hb dX9_copyFrom_68 rfl (lv_at hl 1 rfl) ?_
  refine gm_get (ci := 9) C0 hH inX9_copyFrom_X9 10 5 10 rfl rfl (by decide) rfl rfl dX9_copyFrom_69 ?_
  refine lv_iconst (v := 0) hx hb dX9_copyFrom_72 (by decide) ?_
  refine lv_aload_n hx hb dX9_copyFrom_73 rfl (lv_at hl 0 rfl) ?_
  refine gm_get (ci := 9) C0 hH inX9_copyFrom_X9 0 5 10 rfl rfl (by decide) rfl rfl dX9_copyFrom_74 ?_
  refine lv_iconst (v := 0) hx hb dX9_copyFrom_77 (by decide) ?_
  refine lv_iconst (v := 5) hx hb dX9_copyFrom_78 (by decide) ?_
  refine va_copyi (sp := 0) (dp := 0) (n := 5) (ty := .int) hx hb (by rw [hml]; exact hl.1.symm) hown (gm_at C0 2 rfl) (gm_at C0 3 rfl) (gm_at C0 4 rfl) (gm_at C0 5 rfl) hK hH.1 hH.2.1 hH.2.2 15 5 0 0 rfl rfl rfl rfl rfl (by decide) (by decide) (by decide) (by decide) (by decide) (fun _ _ => rfl) (by decide) (by decide) dX9_copyFrom_79 (fun H locs h1 h2 h3 => ?_)
  have hH : gm_H (dC, dI) A s (wX9_copyFrom cI q q_ending q_meaning q_cost q_alikeTo q_kind q_want q_saidAhead q_heardWord q_heardAnswer q_a1 q_a1_ending q_a1_meaning q_a1_cost q_a1_alikeTo q_a1_kind q_a1_want q_a1_saidAhead q_a1_heardWord q_a1_heardAnswer m_a1_words m_people m_said m_undos m_heard (va_cpy m_a1_ending m_ending (0 : Int32).toNatClampNeg (0 : Int32).toNatClampNeg (10 : Int32).toNatClampNeg) (va_cpy m_a1_meaning m_meaning (0 : Int32).toNatClampNeg (0 : Int32).toNatClampNeg (10 : Int32).toNatClampNeg) (va_cpy m_a1_cost m_cost (0 : Int32).toNatClampNeg (0 : Int32).toNatClampNeg (10 : Int32).toNatClampNeg) (va_cpy m_a1_alikeTo m_alikeTo (0 : Int32).toNatClampNeg (0 : Int32).toNatClampNeg (8 : Int32).toNatClampNeg) (va_cpy m_a1_kind m_kind (0 : Int32).toNatClampNeg (0 : Int32).toNatClampNeg (5 : Int32).toNatClampNeg) m_want m_saidAhead m_heardWord m_heardAnswer m_a1_words m_a1_people m_a1_said m_a1_undos m_a1_heard m_a1_ending m_a1_meaning m_a1_cost m_a1_alikeTo m_a1_kind m_a1_want m_a1_saidAhead m_a1_heardWord m_a1_heardAnswer) H locs := ⟨h1, h2, h3⟩
  refine lv_aload_n hx hb dX9_copyFrom_82 rfl (lv_at hl 1 rfl) ?_
  refine gm_get (ci := 9) C0 hH inX9_copyFrom_X9 10 6 11 rfl rfl (by decide) rfl rfl dX9_copyFrom_83 ?_
  refine lv_iconst (v := 0) hx hb dX9_copyFrom_86 (by decide) ?_
  refine lv_aload_n hx hb dX9_copyFrom_87 rfl (lv_at hl 0 rfl) ?_
  refine gm_get (ci := 9) C0 hH inX9_copyFrom_X9 0 6 11 rfl rfl (by decide) rfl rfl dX9_copyFrom_88 ?_
  refine lv_iconst (v := 0) hx hb dX9_copyFrom_91 (by decide) ?_
  refine lv_iconst (v := 5) hx hb dX9_copyFrom_92 (by decide) ?_
  refine va_copyi (sp := 0) (dp := 0) (n := 5) (ty := .int) hx hb (by rw [hml]; exact hl.1.symm) hown (gm_at C0 2 rfl) (gm_at C0 3 rfl) (gm_at C0 4 rfl) (gm_at C0 5 rfl) hK hH.1 hH.2.1 hH.2.2 16 6 0 0 rfl rfl rfl rfl rfl (by decide) (by decide) (by decide) (by decide) (by decide) (fun _ _ => rfl) (by decide) (by decide) dX9_copyFrom_93 (fun H locs h1 h2 h3 => ?_)
  have hH : gm_H (dC, dI) A s (wX9_copyFrom cI q q_ending q_meaning q_cost q_alikeTo q_kind q_want q_saidAhead q_heardWord q_heardAnswer q_a1 q_a1_ending q_a1_meaning q_a1_cost q_a1_alikeTo q_a1_kind q_a1_want q_a1_saidAhead q_a1_heardWord q_a1_heardAnswer m_a1_words m_people m_said m_undos m_heard (va_cpy m_a1_ending m_ending (0 : Int32).toNatClampNeg (0 : Int32).toNatClampNeg (10 : Int32).toNatClampNeg) (va_cpy m_a1_meaning m_meaning (0 : Int32).toNatClampNeg (0 : Int32).toNatClampNeg (10 : Int32).toNatClampNeg) (va_cpy m_a1_cost m_cost (0 : Int32).toNatClampNeg (0 : Int32).toNatClampNeg (10 : Int32).toNatClampNeg) (va_cpy m_a1_alikeTo m_alikeTo (0 : Int32).toNatClampNeg (0 : Int32).toNatClampNeg (8 : Int32).toNatClampNeg) (va_cpy m_a1_kind m_kind (0 : Int32).toNatClampNeg (0 : Int32).toNatClampNeg (5 : Int32).toNatClampNeg) (va_cpy m_a1_want m_want (0 : Int32).toNatClampNeg (0 : Int32).toNatClampNeg (5 : Int32).toNatClampNeg) m_saidAhead m_heardWord m_heardAnswer m_a1_words m_a1_people m_a1_said m_a1_undos m_a1_heard m_a1_ending m_a1_meaning m_a1_cost m_a1_alikeTo m_a1_kind m_a1_want m_a1_saidAhead m_a1_heardWord m_a1_heardAnswer) H locs := ⟨h1, h2, h3⟩
  refine lv_aload_n hx hb dX9_copyFrom_96 rfl (lv_at hl 0 rfl) ?_
  refine lv_aload_n hx hb dX9_copyFrom_97 rfl (lv_at hl 1 rfl) ?_
  refine gm_get (ci := 9) C0 hH inX9_copyFrom_X9 10 7 12 rfl rfl (by decide) rfl rfl dX9_copyFrom_98 ?_
  refine gm_putf (ci := 9) C0 hH inX9_copyFrom_X9 tyX9_ok nmX9 0 7 12 rfl rfl (by decide) rfl rfl rfl rfl rfl (Nat.le_of_ble_eq_true rfl) dX9_copyFrom_101 (fun H locs hH => ?_)
  have hH : gm_H (dC, dI) A s (wX9_copyFrom cI q q_ending q_meaning q_cost q_alikeTo q_kind q_want q_saidAhead q_heardWord q_heardAnswer q_a1 q_a1_ending q_a1_meaning q_a1_cost q_a1_alikeTo q_a1_kind q_a1_want q_a1_saidAhead q_a1_heardWord q_a1_heardAnswer m_a1_words m_a1_people m_said m_undos m_heard (va_cpy m_a1_ending m_ending (0 : Int32).toNatClampNeg (0 : Int32).toNatClampNeg (10 : Int32).toNatClampNeg) (va_cpy m_a1_meaning m_meaning (0 : Int32).toNatClampNeg (0 : Int32).toNatClampNeg (10 : Int32).toNatClampNeg) (va_cpy m_a1_cost m_cost (0 : Int32).toNatClampNeg (0 : Int32).toNatClampNeg (10 : Int32).toNatClampNeg) (va_cpy m_a1_alikeTo m_alikeTo (0 : Int32).toNatClampNeg (0 : Int32).toNatClampNeg (8 : Int32).toNatClampNeg) (va_cpy m_a1_kind m_kind (0 : Int32).toNatClampNeg (0 : Int32).toNatClampNeg (5 : Int32).toNatClampNeg) (va_cpy m_a1_want m_want (0 : Int32).toNatClampNeg (0 : Int32).toNatClampNeg (5 : Int32).toNatClampNeg) m_saidAhead m_heardWord m_heardAnswer m_a1_words m_a1_people m_a1_said m_a1_undos m_a1_heard m_a1_ending m_a1_meaning m_a1_cost m_a1_alikeTo m_a1_kind m_a1_want m_a1_saidAhead m_a1_heardWord m_a1_heardAnswer) H locs := hH
  refine lv_aload_n hx hb dX9_copyFrom_104 rfl (lv_at hl 0 rfl) ?_
  refine lv_aload_n hx hb dX9_copyFrom_105 rfl (lv_at hl 1 rfl) ?_
  refine gm_get (ci := 9) C0 hH inX9_copyFrom_X9 10 8 13 rfl rfl (by decide) rfl rfl dX9_copyFrom_106 ?_
  refine gm_putf (ci := 9) C0 hH inX9_copyFrom_X9 tyX9_ok nmX9 0 8 13 rfl rfl (by decide) rfl rfl rfl rfl rfl (Nat.le_of_ble_eq_true rfl) dX9_copyFrom_109 (fun H locs hH => ?_)
  have hH : gm_H (dC, dI) A s (wX9_copyFrom cI q q_ending q_meaning q_cost q_alikeTo q_kind q_want q_saidAhead q_heardWord q_heardAnswer q_a1 q_a1_ending q_a1_meaning q_a1_cost q_a1_alikeTo q_a1_kind q_a1_want q_a1_saidAhead q_a1_heardWord q_a1_heardAnswer m_a1_words m_a1_people m_a1_said m_undos m_heard (va_cpy m_a1_ending m_ending (0 : Int32).toNatClampNeg (0 : Int32).toNatClampNeg (10 : Int32).toNatClampNeg) (va_cpy m_a1_meaning m_meaning (0 : Int32).toNatClampNeg (0 : Int32).toNatClampNeg (10 : Int32).toNatClampNeg) (va_cpy m_a1_cost m_cost (0 : Int32).toNatClampNeg (0 : Int32).toNatClampNeg (10 : Int32).toNatClampNeg) (va_cpy m_a1_alikeTo m_alikeTo (0 : Int32).toNatClampNeg (0 : Int32).toNatClampNeg (8 : Int32).toNatClampNeg) (va_cpy m_a1_kind m_kind (0 : Int32).toNatClampNeg (0 : Int32).toNatClampNeg (5 : Int32).toNatClampNeg) (va_cpy m_a1_want m_want (0 : Int32).toNatClampNeg (0 : Int32).toNatClampNeg (5 : Int32).toNatClampNeg) m_saidAhead m_heardWord m_heardAnswer m_a1_words m_a1_people m_a1_said m_a1_undos m_a1_heard m_a1_ending m_a1_meaning m_a1_cost m_a1_alikeTo m_a1_kind m_a1_want m_a1_saidAhead m_a1_heardWord m_a1_heardAnswer) H locs := hH
  refine lv_aload_n hx hb dX9_copyFrom_112 rfl (lv_at hl 1 rfl) ?_
  refine gm_get (ci := 9) C0 hH inX9_copyFrom_X9 10 9 14 rfl rfl (by decide) rfl rfl dX9_copyFrom_113 ?_
  refine lv_iconst (v := 0) hx hb dX9_copyFrom_116 (by decide) ?_
  refine lv_aload_n hx hb dX9_copyFrom_117 rfl (lv_at hl 0 rfl) ?_
  refine gm_get (ci := 9) C0 hH inX9_copyFrom_X9 0 9 14 rfl rfl (by decide) rfl rfl dX9_copyFrom_118 ?_
  refine lv_iconst (v := 0) hx hb dX9_copyFrom_121 (by decide) ?_
  refine lv_bipush (v := 8) hx hb dX9_copyFrom_122 (by decide) ?_
  refine va_copyi (sp := 0) (dp := 0) (n := 8) (ty := .int) hx hb (by rw [hml]; exact hl.1.symm) hown (gm_at C0 2 rfl) (gm_at C0 3 rfl) (gm_at C0 4 rfl) (gm_at C0 5 rfl) hK hH.1 hH.2.1 hH.2.2 17 7 0 0 rfl rfl rfl rfl rfl (by decide) (by decide) (by decide) (by decide) (by decide) (fun _ _ => rfl) (by decide) (by decide) dX9_copyFrom_124 (fun H locs h1 h2 h3 => ?_)
  have hH : gm_H (dC, dI) A s (wX9_copyFrom cI q q_ending q_meaning q_cost q_alikeTo q_kind q_want q_saidAhead q_heardWord q_heardAnswer q_a1 q_a1_ending q_a1_meaning q_a1_cost q_a1_alikeTo q_a1_kind q_a1_want q_a1_saidAhead q_a1_heardWord q_a1_heardAnswer m_a1_words m_a1_people m_a1_said m_undos m_heard (va_cpy m_a1_ending m_ending (0 : Int32).toNatClampNeg (0 : Int32).toNatClampNeg (10 : Int32).toNatClampNeg) (va_cpy m_a1_meaning m_meaning (0 : Int32).toNatClampNeg (0 : Int32).toNatClampNeg (10 : Int32).toNatClampNeg) (va_cpy m_a1_cost m_cost (0 : Int32).toNatClampNeg (0 : Int32).toNatClampNeg (10 : Int32).toNatClampNeg) (va_cpy m_a1_alikeTo m_alikeTo (0 : Int32).toNatClampNeg (0 : Int32).toNatClampNeg (8 : Int32).toNatClampNeg) (va_cpy m_a1_kind m_kind (0 : Int32).toNatClampNeg (0 : Int32).toNatClampNeg (5 : Int32).toNatClampNeg) (va_cpy m_a1_want m_want (0 : Int32).toNatClampNeg (0 : Int32).toNatClampNeg (5 : Int32).toNatClampNeg) (va_cpy m_a1_saidAhead m_saidAhead (0 : Int32).toNatClampNeg (0 : Int32).toNatClampNeg (8 : Int32).toNatClampNeg) m_heardWord m_heardAnswer m_a1_words m_a1_people m_a1_said m_a1_undos m_a1_heard m_a1_ending m_a1_meaning m_a1_cost m_a1_alikeTo m_a1_kind m_a1_want m_a1_saidAhead m_a1_heardWord m_a1_heardAnswer) H locs := ⟨h1, h2, h3⟩
  refine lv_aload_n hx hb dX9_copyFrom_127 rfl (lv_at hl 0 rfl) ?_
  refine lv_aload_n hx hb dX9_copyFrom_128 rfl (lv_at hl 1 rfl) ?_
  refine gm_get (ci := 9) C0 hH inX9_copyFrom_X9 10 10 15 rfl rfl (by decide) rfl rfl dX9_copyFrom_129 ?_
  refine gm_putf (ci := 9) C0 hH inX9_copyFrom_X9 tyX9_ok nmX9 0 10 15 rfl rfl (by decide) rfl rfl rfl rfl rfl (Nat.le_of_ble_eq_true rfl) dX9_copyFrom_132 (fun H locs hH => ?_)
  have hH : gm_H (dC, dI) A s (wX9_copyFrom cI q q_ending q_meaning q_cost q_alikeTo q_kind q_want q_saidAhead q_heardWord q_heardAnswer q_a1 q_a1_ending q_a1_meaning q_a1_cost q_a1_alikeTo q_a1_kind q_a1_want q_a1_saidAhead q_a1_heardWord q_a1_heardAnswer m_a1_words m_a1_people m_a1_said m_a1_undos m_heard (va_cpy m_a1_ending m_ending (0 : Int32).toNatClampNeg (0 : Int32).toNatClampNeg (10 : Int32).toNatClampNeg) (va_cpy m_a1_meaning m_meaning (0 : Int32).toNatClampNeg (0 : Int32).toNatClampNeg (10 : Int32).toNatClampNeg) (va_cpy m_a1_cost m_cost (0 : Int32).toNatClampNeg (0 : Int32).toNatClampNeg (10 : Int32).toNatClampNeg) (va_cpy m_a1_alikeTo m_alikeTo (0 : Int32).toNatClampNeg (0 : Int32).toNatClampNeg (8 : Int32).toNatClampNeg) (va_cpy m_a1_kind m_kind (0 : Int32).toNatClampNeg (0 : Int32).toNatClampNeg (5 : Int32).toNatClampNeg) (va_cpy m_a1_want m_want (0 : Int32).toNatClampNeg (0 : Int32).toNatClampNeg (5 : Int32).toNatClampNeg) (va_cpy m_a1_saidAhead m_saidAhead (0 : Int32).toNatClampNeg (0 : Int32).toNatClampNeg (8 : Int32).toNatClampNeg) m_heardWord m_heardAnswer m_a1_words m_a1_people m_a1_said m_a1_undos m_a1_heard m_a1_ending m_a1_meaning m_a1_cost m_a1_alikeTo m_a1_kind m_a1_want m_a1_saidAhead m_a1_heardWord m_a1_heardAnswer) H locs := hH
  refine lv_aload_n hx hb dX9_copyFrom_135 rfl (lv_at hl 1 rfl) ?_
  refine gm_get (ci := 9) C0 hH inX9_copyFrom_X9 10 11 16 rfl rfl (by decide) rfl rfl dX9_copyFrom_136 ?_
  refine lv_iconst (v := 0) hx hb dX9_copyFrom_139 (by decide) ?_
  refine lv_aload_n hx hb dX9_copyFrom_140 rfl (lv_at hl 0 rfl) ?_
  refine gm_get (ci := 9) C0 hH inX9_copyFrom_X9 0 11 16 rfl rfl (by decide) rfl rfl dX9_copyFrom_141 ?_
  refine lv_iconst (v := 0) hx hb dX9_copyFrom_144 (by decide) ?_
  refine lv_bipush (v := 6) hx hb dX9_copyFrom_145 (by decide) ?_
  refine va_copyi (sp := 0) (dp := 0) (n := 6) (ty := .int) hx hb (by rw [hml]; exact hl.1.symm) hown (gm_at C0 2 rfl) (gm_at C0 3 rfl) (gm_at C0 4 rfl) (gm_at C0 5 rfl) hK hH.1 hH.2.1 hH.2.2 18 8 0 0 rfl rfl rfl rfl rfl (by decide) (by decide) (by decide) (by decide) (by decide) (fun _ _ => rfl) (by decide) (by decide) dX9_copyFrom_147 (fun H locs h1 h2 h3 => ?_)
  have hH : gm_H (dC, dI) A s (wX9_copyFrom cI q q_ending q_meaning q_cost q_alikeTo q_kind q_want q_saidAhead q_heardWord q_heardAnswer q_a1 q_a1_ending q_a1_meaning q_a1_cost q_a1_alikeTo q_a1_kind q_a1_want q_a1_saidAhead q_a1_heardWord q_a1_heardAnswer m_a1_words m_a1_people m_a1_said m_a1_undos m_heard (va_cpy m_a1_ending m_ending (0 : Int32).toNatClampNeg (0 : Int32).toNatClampNeg (10 : Int32).toNatClampNeg) (va_cpy m_a1_meaning m_meaning (0 : Int32).toNatClampNeg (0 : Int32).toNatClampNeg (10 : Int32).toNatClampNeg) (va_cpy m_a1_cost m_cost (0 : Int32).toNatClampNeg (0 : Int32).toNatClampNeg (10 : Int32).toNatClampNeg) (va_cpy m_a1_alikeTo m_alikeTo (0 : Int32).toNatClampNeg (0 : Int32).toNatClampNeg (8 : Int32).toNatClampNeg) (va_cpy m_a1_kind m_kind (0 : Int32).toNatClampNeg (0 : Int32).toNatClampNeg (5 : Int32).toNatClampNeg) (va_cpy m_a1_want m_want (0 : Int32).toNatClampNeg (0 : Int32).toNatClampNeg (5 : Int32).toNatClampNeg) (va_cpy m_a1_saidAhead m_saidAhead (0 : Int32).toNatClampNeg (0 : Int32).toNatClampNeg (8 : Int32).toNatClampNeg) (va_cpy m_a1_heardWord m_heardWord (0 : Int32).toNatClampNeg (0 : Int32).toNatClampNeg (6 : Int32).toNatClampNeg) m_heardAnswer m_a1_words m_a1_people m_a1_said m_a1_undos m_a1_heard m_a1_ending m_a1_meaning m_a1_cost m_a1_alikeTo m_a1_kind m_a1_want m_a1_saidAhead m_a1_heardWord m_a1_heardAnswer) H locs := ⟨h1, h2, h3⟩
  refine lv_aload_n hx hb dX9_copyFrom_150 rfl (lv_at hl 1 rfl) ?_
  refine gm_get (ci := 9) C0 hH inX9_copyFrom_X9 10 12 17 rfl rfl (by decide) rfl rfl dX9_copyFrom_151 ?_
  refine lv_iconst (v := 0) hx hb dX9_copyFrom_154 (by decide) ?_
  refine lv_aload_n hx hb dX9_copyFrom_155 rfl (lv_at hl 0 rfl) ?_
  refine gm_get (ci := 9) C0 hH inX9_copyFrom_X9 0 12 17 rfl rfl (by decide) rfl rfl dX9_copyFrom_156 ?_
  refine lv_iconst (v := 0) hx hb dX9_copyFrom_159 (by decide) ?_
  refine lv_bipush (v := 6) hx hb dX9_copyFrom_160 (by decide) ?_
  refine va_copyi (sp := 0) (dp := 0) (n := 6) (ty := .int) hx hb (by rw [hml]; exact hl.1.symm) hown (gm_at C0 2 rfl) (gm_at C0 3 rfl) (gm_at C0 4 rfl) (gm_at C0 5 rfl) hK hH.1 hH.2.1 hH.2.2 19 9 0 0 rfl rfl rfl rfl rfl (by decide) (by decide) (by decide) (by decide) (by decide) (fun _ _ => rfl) (by decide) (by decide) dX9_copyFrom_162 (fun H locs h1 h2 h3 => ?_)
  have hH : gm_H (dC, dI) A s (wX9_copyFrom cI q q_ending q_meaning q_cost q_alikeTo q_kind q_want q_saidAhead q_heardWord q_heardAnswer q_a1 q_a1_ending q_a1_meaning q_a1_cost q_a1_alikeTo q_a1_kind q_a1_want q_a1_saidAhead q_a1_heardWord q_a1_heardAnswer m_a1_words m_a1_people m_a1_said m_a1_undos m_heard (va_cpy m_a1_ending m_ending (0 : Int32).toNatClampNeg (0 : Int32).toNatClampNeg (10 : Int32).toNatClampNeg) (va_cpy m_a1_meaning m_meaning (0 : Int32).toNatClampNeg (0 : Int32).toNatClampNeg (10 : Int32).toNatClampNeg) (va_cpy m_a1_cost m_cost (0 : Int32).toNatClampNeg (0 : Int32).toNatClampNeg (10 : Int32).toNatClampNeg) (va_cpy m_a1_alikeTo m_alikeTo (0 : Int32).toNatClampNeg (0 : Int32).toNatClampNeg (8 : Int32).toNatClampNeg) (va_cpy m_a1_kind m_kind (0 : Int32).toNatClampNeg (0 : Int32).toNatClampNeg (5 : Int32).toNatClampNeg) (va_cpy m_a1_want m_want (0 : Int32).toNatClampNeg (0 : Int32).toNatClampNeg (5 : Int32).toNatClampNeg) (va_cpy m_a1_saidAhead m_saidAhead (0 : Int32).toNatClampNeg (0 : Int32).toNatClampNeg (8 : Int32).toNatClampNeg) (va_cpy m_a1_heardWord m_heardWord (0 : Int32).toNatClampNeg (0 : Int32).toNatClampNeg (6 : Int32).toNatClampNeg) (va_cpy m_a1_heardAnswer m_heardAnswer (0 : Int32).toNatClampNeg (0 : Int32).toNatClampNeg (6 : Int32).toNatClampNeg) m_a1_words m_a1_people m_a1_said m_a1_undos m_a1_heard m_a1_ending m_a1_meaning m_a1_cost m_a1_alikeTo m_a1_kind m_a1_want m_a1_saidAhead m_a1_heardWord m_a1_heardAnswer) H locs := ⟨h1, h2, h3⟩
  refine lv_aload_n hx hb dX9_copyFrom_165 rfl (lv_at hl 0 rfl) ?_
  refine lv_aload_n hx hb dX9_copyFrom_166 rfl (lv_at hl 1 rfl) ?_
  refine gm_get (ci := 9) C0 hH inX9_copyFrom_X9 10 13 18 rfl rfl (by decide) rfl rfl dX9_copyFrom_167 ?_
  refine gm_putf (ci := 9) C0 hH inX9_copyFrom_X9 tyX9_ok nmX9 0 13 18 rfl rfl (by decide) rfl rfl rfl rfl rfl (Nat.le_of_ble_eq_true rfl) dX9_copyFrom_170 (fun H locs hH => ?_)
  have hH : gm_H (dC, dI) A s (wX9_copyFrom cI q q_ending q_meaning q_cost q_alikeTo q_kind q_want q_saidAhead q_heardWord q_heardAnswer q_a1 q_a1_ending q_a1_meaning q_a1_cost q_a1_alikeTo q_a1_kind q_a1_want q_a1_saidAhead q_a1_heardWord q_a1_heardAnswer m_a1_words m_a1_people m_a1_said m_a1_undos m_a1_heard (va_cpy m_a1_ending m_ending (0 : Int32).toNatClampNeg (0 : Int32).toNatClampNeg (10 : Int32).toNatClampNeg) (va_cpy m_a1_meaning m_meaning (0 : Int32).toNatClampNeg (0 : Int32).toNatClampNeg (10 : Int32).toNatClampNeg) (va_cpy m_a1_cost m_cost (0 : Int32).toNatClampNeg (0 : Int32).toNatClampNeg (10 : Int32).toNatClampNeg) (va_cpy m_a1_alikeTo m_alikeTo (0 : Int32).toNatClampNeg (0 : Int32).toNatClampNeg (8 : Int32).toNatClampNeg) (va_cpy m_a1_kind m_kind (0 : Int32).toNatClampNeg (0 : Int32).toNatClampNeg (5 : Int32).toNatClampNeg) (va_cpy m_a1_want m_want (0 : Int32).toNatClampNeg (0 : Int32).toNatClampNeg (5 : Int32).toNatClampNeg) (va_cpy m_a1_saidAhead m_saidAhead (0 : Int32).toNatClampNeg (0 : Int32).toNatClampNeg (8 : Int32).toNatClampNeg) (va_cpy m_a1_heardWord m_heardWord (0 : Int32).toNatClampNeg (0 : Int32).toNatClampNeg (6 : Int32).toNatClampNeg) (va_cpy m_a1_heardAnswer m_heardAnswer (0 : Int32).toNatClampNeg (0 : Int32).toNatClampNeg (6 : Int32).toNatClampNeg) m_a1_words m_a1_people m_a1_said m_a1_undos m_a1_heard m_a1_ending m_a1_meaning m_a1_cost m_a1_alikeTo m_a1_kind m_a1_want m_a1_saidAhead m_a1_heardWord m_a1_heardAnswer) H locs := hH
  obtain rfl := Option.some.inj h
  exact gm_vret C0 hH dX9_copyFrom_173

/-! X9_addHeard -/
abbrev wX9_addHeard (cI : ClassId) (q q_heardWord q_heardAnswer q_ending q_meaning q_cost q_alikeTo q_kind q_want q_saidAhead : Nat) (m_words : Int32) (m_people : Int32) (m_said : Int32) (m_undos : Int32) (m_heard : Int32) (m_heardWord : Nat → Int32) (m_heardAnswer : Nat → Int32) : va_W := [(q, .inr (9, [.ref q_ending, .ref q_meaning, .ref q_cost, .int m_words, .ref q_alikeTo, .ref q_kind, .ref q_want, .int m_people, .int m_said, .ref q_saidAhead, .int m_undos, .ref q_heardWord, .ref q_heardAnswer, .int m_heard])), (q_heardWord, .inl (cI, 6, .inl m_heardWord)), (q_heardAnswer, .inl (cI, 6, .inl m_heardAnswer))]
abbrev rX9_addHeard : Room := { frames := 0, cells := 0, slots := 0, locals := 0 }
def fX9_addHeard (N : Nat) (m_heard : Int32) (m_heardWord : Nat → Int32) (m_heardAnswer : Nat → Int32) (x1 : Int32) (x2 : Int32) : Option (Int32 × Int32 × (Nat → Int32) × (Nat → Int32)) := (if m_heard < 6 then gm_chk m_heard 6 (gm_chk m_heard 6 (gm_let ((m_heard + 1) : Int32) (fun (v4 : Int32) => some ((m_heard + 1), v4, upd m_heardWord (Int32.toNatClampNeg m_heard) x1, upd m_heardAnswer (Int32.toNatClampNeg m_heard) x2)))) else some ((-4), m_heard, m_heardWord, m_heardAnswer))
set_option maxRecDepth 20000 in
theorem inX9_addHeard_X9 : ∀ w ∈ u_ws RX9 TX9 14, w ∈ wsX9_addHeard := fun w h => by
  obtain ⟨k, hk, rfl⟩ := List.mem_map.mp h
  have hk2 := List.mem_range.mp hk
  exact List.mem_of_getElem? (i := 4 + k) (by rcases (show k = 0 ∨ k = 1 ∨ k = 2 ∨ k = 3 ∨ k = 4 ∨ k = 5 ∨ k = 6 ∨ k = 7 ∨ k = 8 ∨ k = 9 ∨ k = 10 ∨ k = 11 ∨ k = 12 ∨ k = 13 by omega) with rfl | rfl | rfl | rfl | rfl | rfl | rfl | rfl | rfl | rfl | rfl | rfl | rfl | rfl <;> rfl)
set_option maxRecDepth 100000 in
set_option maxHeartbeats 4000000 in
theorem mX9_addHeard (l : Launch) (dC : Nat → ClassId) (dI : Nat → Nat → Nat) (cI : ClassId) (q q_heardWord q_heardAnswer q_ending q_meaning q_cost q_alikeTo q_kind q_want q_saidAhead : Nat) (m_words : Int32) (m_people : Int32) (m_said : Int32) (m_undos : Int32) (m_heard : Int32) (m_heardWord : Nat → Int32) (m_heardAnswer : Nat → Int32) (x1 : Int32) (x2 : Int32)  {N : Nat} {out : Int32 × Int32 × (Nat → Int32) × (Nat → Int32)} (h : fX9_addHeard N m_heard m_heardWord m_heardAnswer x1 x2 = some out) : gm_Met l yX9_addHeard wsX9_addHeard rX9_addHeard (dC, dI) [(cI, .int)] gm_T [.ref q, .int x1, .int x2] (wX9_addHeard cI q q_heardWord q_heardAnswer q_ending q_meaning q_cost q_alikeTo q_kind q_want q_saidAhead m_words m_people m_said m_undos m_heard m_heardWord m_heardAnswer) (some (.int out.1)) (wX9_addHeard cI q q_heardWord q_heardAnswer q_ending q_meaning q_cost q_alikeTo q_kind q_want q_saidAhead m_words m_people m_said m_undos out.2.1 out.2.2.1 out.2.2.2) := by
  refine gm_ofW (cc := cX9_addHeard) (maxL := 3) (ret := (some .int)) (by decide +kernel) rfl (Nat.le_of_ble_eq_true rfl) ?_
  intro p e s m below meth c A C0 hH ls hl
  generalize ([.ref q, .int x1, .int x2] : List Value).toArray = args at C0 ⊢
  have hl : lv_has ls 3 [(0, .ref q), (1, .int x1), (2, .int x2)] := hl
  generalize s.heap = H at hH ⊢
  generalize ([] : List Loc) = locs at hH ⊢
  obtain ⟨hx, hb, hml, hr, hown, hts, hA, hK, hX, hlocks⟩ := id C0
  unfold fX9_addHeard at h
  refine lv_aload_n hx hb dX9_addHeard_0 rfl (lv_at hl 0 rfl) ?_
  refine gm_get (ci := 9) C0 hH inX9_addHeard_X9 0 13 1 rfl rfl (by decide) rfl rfl dX9_addHeard_1 ?_
  refine lv_bipush (v := 6) hx hb dX9_addHeard_4 (by decide) ?_
  refine lv_icmp_lt (tgt := 12) hx hb dX9_addHeard_6 (by decide) (fun hc1 => ?_) (fun hc1 => ?_)
  · replace h := gm_pos hc1 h
    refine lv_aload_n hx hb dX9_addHeard_12 rfl (lv_at hl 0 rfl) ?_
    refine gm_get (ci := 9) C0 hH inX9_addHeard_X9 0 11 2 rfl rfl (by decide) rfl rfl dX9_addHeard_13 ?_
    refine lv_aload_n hx hb dX9_addHeard_16 rfl (lv_at hl 0 rfl) ?_
    refine gm_get (ci := 9) C0 hH inX9_addHeard_X9 0 13 1 rfl rfl (by decide) rfl rfl dX9_addHeard_17 ?_
    refine lv_iload_n hx hb dX9_addHeard_20 rfl (lv_at hl 1 rfl) ?_
    obtain ⟨hi2, h⟩ := gm_chk_e h
    refine gm_iast C0 hH hi2 1 0 rfl rfl dX9_addHeard_21 (fun H locs hH => ?_)
    have hH : gm_H (dC, dI) A s (wX9_addHeard cI q q_heardWord q_heardAnswer q_ending q_meaning q_cost q_alikeTo q_kind q_want q_saidAhead m_words m_people m_said m_undos m_heard (upd m_heardWord (Int32.toNatClampNeg m_heard) x1) m_heardAnswer) H locs := hH
    refine lv_aload_n hx hb dX9_addHeard_22 rfl (lv_at hl 0 rfl) ?_
    refine gm_get (ci := 9) C0 hH inX9_addHeard_X9 0 12 3 rfl rfl (by decide) rfl rfl dX9_addHeard_23 ?_
    refine lv_aload_n hx hb dX9_addHeard_26 rfl (lv_at hl 0 rfl) ?_
    refine gm_get (ci := 9) C0 hH inX9_addHeard_X9 0 13 1 rfl rfl (by decide) rfl rfl dX9_addHeard_27 ?_
    refine lv_iload_n hx hb dX9_addHeard_30 rfl (lv_at hl 2 rfl) ?_
    obtain ⟨hi3, h⟩ := gm_chk_e h
    refine gm_iast C0 hH hi3 2 0 rfl rfl dX9_addHeard_31 (fun H locs hH => ?_)
    have hH : gm_H (dC, dI) A s (wX9_addHeard cI q q_heardWord q_heardAnswer q_ending q_meaning q_cost q_alikeTo q_kind q_want q_saidAhead m_words m_people m_said m_undos m_heard (upd m_heardWord (Int32.toNatClampNeg m_heard) x1) (upd m_heardAnswer (Int32.toNatClampNeg m_heard) x2)) H locs := hH
    refine lv_aload_n hx hb dX9_addHeard_32 rfl (lv_at hl 0 rfl) ?_
    refine lv_dup hx hb dX9_addHeard_33 rfl ?_
    refine gm_get (ci := 9) C0 hH inX9_addHeard_X9 0 13 1 rfl rfl (by decide) rfl rfl dX9_addHeard_34 ?_
    refine lv_iconst (v := 1) hx hb dX9_addHeard_37 (by decide) ?_
    refine lv_iadd hx hb dX9_addHeard_38 ?_
    refine lv_dup_x1 hx hb dX9_addHeard_39 rfl rfl ?_
    refine lv_topi (fun v4 ev4 => ?_)
    replace h := gm_let_e ev4 h
    refine gm_putf (ci := 9) C0 hH inX9_addHeard_X9 tyX9_ok nmX9 0 13 1 rfl rfl (by decide) rfl rfl rfl rfl rfl (Nat.le_of_ble_eq_true rfl) dX9_addHeard_40 (fun H locs hH => ?_)
    have hH : gm_H (dC, dI) A s (wX9_addHeard cI q q_heardWord q_heardAnswer q_ending q_meaning q_cost q_alikeTo q_kind q_want q_saidAhead m_words m_people m_said m_undos v4 (upd m_heardWord (Int32.toNatClampNeg m_heard) x1) (upd m_heardAnswer (Int32.toNatClampNeg m_heard) x2)) H locs := hH
    obtain rfl := Option.some.inj h
    exact gm_iret C0 hH dX9_addHeard_43
  · replace h := gm_neg hc1 h
    refine lv_bipush (v := (-4)) hx hb dX9_addHeard_9 (by decide) ?_
    obtain rfl := Option.some.inj h
    exact gm_iret C0 hH dX9_addHeard_11

/-! X9_areAlike -/
abbrev wX9_areAlike (cI : ClassId) (q q_alikeTo q_ending q_meaning q_cost q_kind q_want q_saidAhead q_heardWord q_heardAnswer : Nat) (m_words : Int32) (m_people : Int32) (m_said : Int32) (m_undos : Int32) (m_heard : Int32) (m_alikeTo : Nat → Int32) : va_W := [(q, .inr (9, [.ref q_ending, .ref q_meaning, .ref q_cost, .int m_words, .ref q_alikeTo, .ref q_kind, .ref q_want, .int m_people, .int m_said, .ref q_saidAhead, .int m_undos, .ref q_heardWord, .ref q_heardAnswer, .int m_heard])), (q_alikeTo, .inl (cI, 8, .inl m_alikeTo))]
abbrev rX9_areAlike : Room := { frames := 0, cells := 0, slots := 0, locals := 0 }
def fX9_areAlike (N : Nat) (m_alikeTo : Nat → Int32) (x1 : Int32) (x2 : Int32) : Option (Int32) := gm_chk x1 8 ((if (((m_alikeTo (Int32.toNatClampNeg x1)) >>> (x2 &&& 31)) &&& 1) = 1 then some (1) else some (0)))
set_option maxRecDepth 20000 in
theorem inX9_areAlike_X9 : ∀ w ∈ u_ws RX9 TX9 14, w ∈ wsX9_areAlike := fun w h => by
  obtain ⟨k, hk, rfl⟩ := List.mem_map.mp h
  have hk2 := List.mem_range.mp hk
  exact List.mem_of_getElem? (i := 2 + k) (by rcases (show k = 0 ∨ k = 1 ∨ k = 2 ∨ k = 3 ∨ k = 4 ∨ k = 5 ∨ k = 6 ∨ k = 7 ∨ k = 8 ∨ k = 9 ∨ k = 10 ∨ k = 11 ∨ k = 12 ∨ k = 13 by omega) with rfl | rfl | rfl | rfl | rfl | rfl | rfl | rfl | rfl | rfl | rfl | rfl | rfl | rfl <;> rfl)
set_option maxRecDepth 100000 in
set_option maxHeartbeats 4000000 in
theorem mX9_areAlike (l : Launch) (dC : Nat → ClassId) (dI : Nat → Nat → Nat) (cI : ClassId) (q q_alikeTo q_ending q_meaning q_cost q_kind q_want q_saidAhead q_heardWord q_heardAnswer : Nat) (m_words : Int32) (m_people : Int32) (m_said : Int32) (m_undos : Int32) (m_heard : Int32) (m_alikeTo : Nat → Int32) (x1 : Int32) (x2 : Int32)  {N : Nat} {out : Int32} (h : fX9_areAlike N m_alikeTo x1 x2 = some out) : gm_Met l yX9_areAlike wsX9_areAlike rX9_areAlike (dC, dI) [(cI, .int)] gm_T [.ref q, .int x1, .int x2] (wX9_areAlike cI q q_alikeTo q_ending q_meaning q_cost q_kind q_want q_saidAhead q_heardWord q_heardAnswer m_words m_people m_said m_undos m_heard m_alikeTo) (some (.int out)) (wX9_areAlike cI q q_alikeTo q_ending q_meaning q_cost q_kind q_want q_saidAhead q_heardWord q_heardAnswer m_words m_people m_said m_undos m_heard m_alikeTo) := by
  refine gm_ofW (cc := cX9_areAlike) (maxL := 3) (ret := (some .boolean)) (by decide +kernel) rfl (Nat.le_of_ble_eq_true rfl) ?_
  intro p e s m below meth c A C0 hH ls hl
  generalize ([.ref q, .int x1, .int x2] : List Value).toArray = args at C0 ⊢
  have hl : lv_has ls 3 [(0, .ref q), (1, .int x1), (2, .int x2)] := hl
  generalize s.heap = H at hH ⊢
  generalize ([] : List Loc) = locs at hH ⊢
  obtain ⟨hx, hb, hml, hr, hown, hts, hA, hK, hX, hlocks⟩ := id C0
  unfold fX9_areAlike at h
  refine lv_aload_n hx hb dX9_areAlike_0 rfl (lv_at hl 0 rfl) ?_
  refine gm_get (ci := 9) C0 hH inX9_areAlike_X9 0 4 1 rfl rfl (by decide) rfl rfl dX9_areAlike_1 ?_
  refine lv_iload_n hx hb dX9_areAlike_4 rfl (lv_at hl 1 rfl) ?_
  obtain ⟨hi1, h⟩ := gm_chk_e h
  refine gm_iald C0 hH hi1 1 0 rfl rfl dX9_areAlike_5 ?_
  refine lv_iload_n hx hb dX9_areAlike_6 rfl (lv_at hl 2 rfl) ?_
  refine lv_ishr hx hb dX9_areAlike_7 ?_
  refine lv_iconst (v := 1) hx hb dX9_areAlike_8 (by decide) ?_
  refine lv_iand hx hb dX9_areAlike_9 ?_
  refine lv_iconst (v := 1) hx hb dX9_areAlike_10 (by decide) ?_
  refine lv_icmp_ne (tgt := 18) hx hb dX9_areAlike_11 (by decide) (fun hc2 => ?_) (fun hc2 => ?_)
  · replace h := gm_neg hc2 h
    refine lv_iconst (v := 0) hx hb dX9_areAlike_18 (by decide) ?_
    obtain rfl := Option.some.inj h
    exact gm_zret C0 hH (show narrow .boolean (.int 0) = .int 0 by decide) dX9_areAlike_19
  · replace h := gm_pos hc2 h
    refine lv_iconst (v := 1) hx hb dX9_areAlike_14 (by decide) ?_
    refine lv_goto (tgt := 19) hx hb dX9_areAlike_15 (by decide) ?_
    obtain rfl := Option.some.inj h
    exact gm_zret C0 hH (show narrow .boolean (.int 1) = .int 1 by decide) dX9_areAlike_19

/-! X9_alikePairs -/
abbrev wX9_alikePairs (cI : ClassId) (q q_alikeTo q_ending q_meaning q_cost q_kind q_want q_saidAhead q_heardWord q_heardAnswer : Nat) (m_words : Int32) (m_people : Int32) (m_said : Int32) (m_undos : Int32) (m_heard : Int32) (m_alikeTo : Nat → Int32) : va_W := [(q, .inr (9, [.ref q_ending, .ref q_meaning, .ref q_cost, .int m_words, .ref q_alikeTo, .ref q_kind, .ref q_want, .int m_people, .int m_said, .ref q_saidAhead, .int m_undos, .ref q_heardWord, .ref q_heardAnswer, .int m_heard])), (q_alikeTo, .inl (cI, 8, .inl m_alikeTo))]
abbrev rX9_alikePairs : Room := { frames := 1, cells := 0, slots := 0, locals := 20 }
def fX9_alikePairs_b4_body (N : Nat)  (m_alikeTo : Nat → Int32) (r4 : Int32 → Int32 → Option (Int32)) (x1 : Int32) (x2 : Int32) : Option (Int32) := (if 8 ≤ x2 then gm_nz 2 (some ((x1 / 2))) else gm_chk x2 8 (gm_bind (fJ6_bitCount_0f7a4 N ((m_alikeTo (Int32.toNatClampNeg x2)))) (fun o4 => gm_let ((x1 + o4) : Int32) (fun (v5 : Int32) => (r4 v5 ((x2 + 1)))))))
def fX9_alikePairs_b4 (N : Nat)  (m_alikeTo : Nat → Int32) (x1 : Int32) (x2 : Int32) : Option (Int32) := gm_fix (fX9_alikePairs_b4_body N  m_alikeTo) (fun _ _ => none) N x1 x2
def fX9_alikePairs (N : Nat) (m_alikeTo : Nat → Int32)  : Option (Int32) := (fX9_alikePairs_b4 N  m_alikeTo 0 0)
set_option maxRecDepth 20000 in
theorem inX9_alikePairs_X9 : ∀ w ∈ u_ws RX9 TX9 14, w ∈ wsX9_alikePairs := fun w h => by
  obtain ⟨k, hk, rfl⟩ := List.mem_map.mp h
  have hk2 := List.mem_range.mp hk
  exact List.mem_of_getElem? (i := 9 + k) (by rcases (show k = 0 ∨ k = 1 ∨ k = 2 ∨ k = 3 ∨ k = 4 ∨ k = 5 ∨ k = 6 ∨ k = 7 ∨ k = 8 ∨ k = 9 ∨ k = 10 ∨ k = 11 ∨ k = 12 ∨ k = 13 by omega) with rfl | rfl | rfl | rfl | rfl | rfl | rfl | rfl | rfl | rfl | rfl | rfl | rfl | rfl <;> rfl)
set_option maxRecDepth 100000 in
set_option maxHeartbeats 4000000 in
theorem tX9_alikePairs_b4 {p : Program} {l : Launch} {e : Env} {s : State} {m : MethodId} {args : Array Value} {below : List Frame} {meth : Method} {c : Code} {A : Nat → Prop} {dC : Nat → ClassId} {dI : Nat → Nat → Nat} {cI : ClassId} {q q_alikeTo q_ending q_meaning q_cost q_kind q_want q_saidAhead q_heardWord q_heardAnswer : Nat} {m_words : Int32} {m_people : Int32} {m_said : Int32} {m_undos : Int32} {m_heard : Int32} {m_alikeTo : Nat → Int32} (C0 : gm_C p s m args meth c (dC, dI) [(cI, .int)] A gm_T RX9 cX9_alikePairs 3 (some .int) wsX9_alikePairs) {N : Nat} {out : Int32}   : ∀ (n : Nat), ∀ (x1 : Int32) (x2 : Int32) (H : Heap) (locs : List Loc) (ls : Array Slot), (gm_fix (fX9_alikePairs_b4_body N  m_alikeTo) (fun _ _ => none) n) x1 x2 = some out → gm_H (dC, dI) A s (wX9_alikePairs cI q q_alikeTo q_ending q_meaning q_cost q_kind q_want q_saidAhead q_heardWord q_heardAnswer m_words m_people m_said m_undos m_heard m_alikeTo) H locs → lv_has ls 3 [(0, .ref q), (1, .int x1), (2, .int x2)] → W p l e rX9_alikePairs s m args below meth c H locs 0 0 (MQ below (gm_Q (dC, dI) [(cI, .int)] A (some (.int out)) (wX9_alikePairs cI q q_alikeTo q_ending q_meaning q_cost q_kind q_want q_saidAhead q_heardWord q_heardAnswer m_words m_people m_said m_undos m_heard m_alikeTo)) args s 0 0 A) (F0 m 4 ls []) := by
  obtain ⟨hx, hb, hml, hr, hown, hts, hA, hK, hX, hlocks⟩ := id C0
  intro n
  induction n with
  | zero =>
    intro x1 x2 H locs ls h hH hl
    cases h
  | succ n hr4 =>
    intro x1 x2 H locs ls h hH hl
    rw [gm_fix_s] at h
    unfold fX9_alikePairs_b4_body at h
    refine lv_iload_n hx hb dX9_alikePairs_4 rfl (lv_at hl 2 rfl) ?_
    refine lv_bipush (v := 8) hx hb dX9_alikePairs_5 (by decide) ?_
    refine lv_icmp_ge (tgt := 28) hx hb dX9_alikePairs_7 (by decide) (fun hc1 => ?_) (fun hc1 => ?_)
    · replace h := gm_pos hc1 h
      refine lv_iload_n hx hb dX9_alikePairs_28 rfl (lv_at hl 1 rfl) ?_
      refine lv_iconst (v := 2) hx hb dX9_alikePairs_29 (by decide) ?_
      obtain ⟨hz2, h⟩ := gm_nz_e h
      refine lv_idiv hx hb dX9_alikePairs_30 hz2 ?_
      obtain rfl := Option.some.inj h
      exact gm_iret C0 hH dX9_alikePairs_31
    · replace h := gm_neg hc1 h
      refine lv_iload_n hx hb dX9_alikePairs_10 rfl (lv_at hl 1 rfl) ?_
      refine lv_aload_n hx hb dX9_alikePairs_11 rfl (lv_at hl 0 rfl) ?_
      refine gm_get (ci := 9) C0 hH inX9_alikePairs_X9 0 4 1 rfl rfl (by decide) rfl rfl dX9_alikePairs_12 ?_
      refine lv_iload_n hx hb dX9_alikePairs_15 rfl (lv_at hl 2 rfl) ?_
      obtain ⟨hi3, h⟩ := gm_chk_e h
      refine gm_iald C0 hH hi3 1 0 rfl rfl dX9_alikePairs_16 ?_
      obtain ⟨o4, ho4, h⟩ := gm_bind_e h
      refine gm_callS (As := [.int (m_alikeTo (Int32.toNatClampNeg x2))]) (rest := [.int x1]) (n := 1) C0 hH (mJ6_bitCount_0f7a4 l dC dI    ((m_alikeTo (Int32.toNatClampNeg x2)))   ho4) gX9_alikePairs_J6_bitCount_0f7a4 rfl (by decide +kernel) ⟨rfl, rfl, Nat.le_of_ble_eq_true rfl, Nat.le_of_ble_eq_true rfl⟩ gm_T_ok (fun _ => trivial) [] rfl rfl rfl [] rfl rfl hl.1 rfl (Nat.le_of_ble_eq_true rfl) dX9_alikePairs_17 ⟨Nat.zero_le _, Nat.zero_le _⟩ (fun H locs hH => ?_)
      have hH : gm_H (dC, dI) A s (wX9_alikePairs cI q q_alikeTo q_ending q_meaning q_cost q_kind q_want q_saidAhead q_heardWord q_heardAnswer m_words m_people m_said m_undos m_heard m_alikeTo) H locs := hH
      refine lv_iadd hx hb dX9_alikePairs_20 ?_
      refine lv_topi (fun v5 ev5 => ?_)
      replace h := gm_let_e ev5 h
      refine lv_istore_n (lv' := [(1, .int v5), (0, .ref q), (2, .int x2)]) hx hb dX9_alikePairs_21 rfl hl (by decide) rfl (fun ls hl => ?_)
      refine lv_iinc (v := (x2 + 1)) (lv' := [(2, .int (x2 + 1)), (1, .int v5), (0, .ref q)]) hx hb dX9_alikePairs_22 hl (k := 2) rfl rfl (by decide) rfl (fun ls hl => ?_)
      refine lv_goto (tgt := 4) hx hb dX9_alikePairs_25 (by decide) ?_
      exact hr4 _ _ _ _ _ h hH (lv_sub hl [2, 1, 0] rfl)
set_option maxRecDepth 100000 in
set_option maxHeartbeats 4000000 in
theorem mX9_alikePairs (l : Launch) (dC : Nat → ClassId) (dI : Nat → Nat → Nat) (cI : ClassId) (q q_alikeTo q_ending q_meaning q_cost q_kind q_want q_saidAhead q_heardWord q_heardAnswer : Nat) (m_words : Int32) (m_people : Int32) (m_said : Int32) (m_undos : Int32) (m_heard : Int32) (m_alikeTo : Nat → Int32)   {N : Nat} {out : Int32} (h : fX9_alikePairs N m_alikeTo = some out) : gm_Met l yX9_alikePairs wsX9_alikePairs rX9_alikePairs (dC, dI) [(cI, .int)] gm_T [.ref q] (wX9_alikePairs cI q q_alikeTo q_ending q_meaning q_cost q_kind q_want q_saidAhead q_heardWord q_heardAnswer m_words m_people m_said m_undos m_heard m_alikeTo) (some (.int out)) (wX9_alikePairs cI q q_alikeTo q_ending q_meaning q_cost q_kind q_want q_saidAhead q_heardWord q_heardAnswer m_words m_people m_said m_undos m_heard m_alikeTo) := by
  refine gm_ofW (cc := cX9_alikePairs) (maxL := 3) (ret := (some .int)) (by decide +kernel) rfl (Nat.le_of_ble_eq_true rfl) ?_
  intro p e s m below meth c A C0 hH ls hl
  generalize ([.ref q] : List Value).toArray = args at C0 ⊢
  have hl : lv_has ls 3 [(0, .ref q)] := hl
  generalize s.heap = H at hH ⊢
  generalize ([] : List Loc) = locs at hH ⊢
  obtain ⟨hx, hb, hml, hr, hown, hts, hA, hK, hX, hlocks⟩ := id C0
  unfold fX9_alikePairs at h
  refine lv_iconst (v := 0) hx hb dX9_alikePairs_0 (by decide) ?_
  refine lv_istore_n (lv' := [(1, .int 0), (0, .ref q)]) hx hb dX9_alikePairs_1 rfl hl (by decide) rfl (fun ls hl => ?_)
  refine lv_iconst (v := 0) hx hb dX9_alikePairs_2 (by decide) ?_
  refine lv_istore_n (lv' := [(2, .int 0), (1, .int 0), (0, .ref q)]) hx hb dX9_alikePairs_3 rfl hl (by decide) rfl (fun ls hl => ?_)
  unfold fX9_alikePairs_b4 at h
  exact tX9_alikePairs_b4 C0  _ _ _ _ _ _ h hH (lv_sub hl [2, 1, 0] rfl)

/-! X9_say -/
abbrev wX9_say (cI : ClassId) (q q_saidAhead q_ending q_meaning q_cost q_alikeTo q_kind q_want q_heardWord q_heardAnswer : Nat) (m_words : Int32) (m_people : Int32) (m_said : Int32) (m_undos : Int32) (m_heard : Int32) (m_saidAhead : Nat → Int32) : va_W := [(q, .inr (9, [.ref q_ending, .ref q_meaning, .ref q_cost, .int m_words, .ref q_alikeTo, .ref q_kind, .ref q_want, .int m_people, .int m_said, .ref q_saidAhead, .int m_undos, .ref q_heardWord, .ref q_heardAnswer, .int m_heard])), (q_saidAhead, .inl (cI, 8, .inl m_saidAhead))]
abbrev rX9_say : Room := { frames := 1, cells := 0, slots := 0, locals := 26 }
def fX9_say_b34 (N : Nat)  (m_said : Int32) (m_undos : Int32) (m_saidAhead : Nat → Int32) (x1 : Int32) : Option (Int32 × Int32 × (Nat → Int32)) := gm_chk m_undos 8 (gm_let ((m_undos + 1) : Int32) (fun (v3 : Int32) => gm_let ((m_said ||| ((1 : Int32) <<< (x1 &&& 31))) : Int32) (fun (v4 : Int32) => some (v4, v3, upd m_saidAhead (Int32.toNatClampNeg m_undos) m_said))))
def fX9_say (N : Nat) (m_said : Int32) (m_undos : Int32) (m_saidAhead : Nat → Int32) (x1 : Int32) : Option (Int32 × Int32 × (Nat → Int32)) := (if m_undos = 8 then gm_let ((m_undos - 1) : Int32) (fun (v5 : Int32) => (fX9_say_b34 N  m_said v5 (va_cpy m_saidAhead m_saidAhead (1 : Int32).toNatClampNeg (0 : Int32).toNatClampNeg (7 : Int32).toNatClampNeg) x1)) else (fX9_say_b34 N  m_said m_undos m_saidAhead x1))
set_option maxRecDepth 20000 in
theorem inX9_say_X9 : ∀ w ∈ u_ws RX9 TX9 14, w ∈ wsX9_say := fun w h => by
  obtain ⟨k, hk, rfl⟩ := List.mem_map.mp h
  have hk2 := List.mem_range.mp hk
  exact List.mem_of_getElem? (i := 8 + k) (by rcases (show k = 0 ∨ k = 1 ∨ k = 2 ∨ k = 3 ∨ k = 4 ∨ k = 5 ∨ k = 6 ∨ k = 7 ∨ k = 8 ∨ k = 9 ∨ k = 10 ∨ k = 11 ∨ k = 12 ∨ k = 13 by omega) with rfl | rfl | rfl | rfl | rfl | rfl | rfl | rfl | rfl | rfl | rfl | rfl | rfl | rfl <;> rfl)
set_option maxRecDepth 100000 in
set_option maxHeartbeats 4000000 in
theorem tX9_say_b34 {p : Program} {l : Launch} {e : Env} {s : State} {m : MethodId} {args : Array Value} {below : List Frame} {meth : Method} {c : Code} {A : Nat → Prop} {dC : Nat → ClassId} {dI : Nat → Nat → Nat} {cI : ClassId} {q q_saidAhead q_ending q_meaning q_cost q_alikeTo q_kind q_want q_heardWord q_heardAnswer : Nat} {m_words : Int32} {m_people : Int32} {m_said : Int32} {m_undos : Int32} {m_heard : Int32} {m_saidAhead : Nat → Int32} {x1 : Int32} (C0 : gm_C p s m args meth c (dC, dI) [(cI, .int)] A gm_T RX9 cX9_say 2 none wsX9_say) {N : Nat} {out : Int32 × Int32 × (Nat → Int32)}    {H : Heap} {locs : List Loc} {ls : Array Slot} (h : fX9_say_b34 N  m_said m_undos m_saidAhead x1 = some out) (hH : gm_H (dC, dI) A s (wX9_say cI q q_saidAhead q_ending q_meaning q_cost q_alikeTo q_kind q_want q_heardWord q_heardAnswer m_words m_people m_said m_undos m_heard m_saidAhead) H locs) (hl : lv_has ls 2 [(0, .ref q), (1, .int x1)]) : W p l e rX9_say s m args below meth c H locs 0 0 (MQ below (gm_Q (dC, dI) [(cI, .int)] A none (wX9_say cI q q_saidAhead q_ending q_meaning q_cost q_alikeTo q_kind q_want q_heardWord q_heardAnswer m_words m_people out.1 out.2.1 m_heard out.2.2)) args s 0 0 A) (F0 m 34 ls []) := by
  obtain ⟨hx, hb, hml, hr, hown, hts, hA, hK, hX, hlocks⟩ := id C0
  unfold fX9_say_b34 at h
  refine lv_aload_n hx hb dX9_say_34 rfl (lv_at hl 0 rfl) ?_
  refine gm_get (ci := 9) C0 hH inX9_say_X9 0 9 2 rfl rfl (by decide) rfl rfl dX9_say_35 ?_
  refine lv_aload_n hx hb dX9_say_38 rfl (lv_at hl 0 rfl) ?_
  refine gm_get (ci := 9) C0 hH inX9_say_X9 0 10 1 rfl rfl (by decide) rfl rfl dX9_say_39 ?_
  refine lv_aload_n hx hb dX9_say_42 rfl (lv_at hl 0 rfl) ?_
  refine gm_get (ci := 9) C0 hH inX9_say_X9 0 8 7 rfl rfl (by decide) rfl rfl dX9_say_43 ?_
  obtain ⟨hi2, h⟩ := gm_chk_e h
  refine gm_iast C0 hH hi2 1 0 rfl rfl dX9_say_46 (fun H locs hH => ?_)
  have hH : gm_H (dC, dI) A s (wX9_say cI q q_saidAhead q_ending q_meaning q_cost q_alikeTo q_kind q_want q_heardWord q_heardAnswer m_words m_people m_said m_undos m_heard (upd m_saidAhead (Int32.toNatClampNeg m_undos) m_said)) H locs := hH
  refine lv_aload_n hx hb dX9_say_47 rfl (lv_at hl 0 rfl) ?_
  refine lv_dup hx hb dX9_say_48 rfl ?_
  refine gm_get (ci := 9) C0 hH inX9_say_X9 0 10 1 rfl rfl (by decide) rfl rfl dX9_say_49 ?_
  refine lv_iconst (v := 1) hx hb dX9_say_52 (by decide) ?_
  refine lv_iadd hx hb dX9_say_53 ?_
  refine lv_topi (fun v3 ev3 => ?_)
  replace h := gm_let_e ev3 h
  refine gm_putf (ci := 9) C0 hH inX9_say_X9 tyX9_ok nmX9 0 10 1 rfl rfl (by decide) rfl rfl rfl rfl rfl (Nat.le_of_ble_eq_true rfl) dX9_say_54 (fun H locs hH => ?_)
  have hH : gm_H (dC, dI) A s (wX9_say cI q q_saidAhead q_ending q_meaning q_cost q_alikeTo q_kind q_want q_heardWord q_heardAnswer m_words m_people m_said v3 m_heard (upd m_saidAhead (Int32.toNatClampNeg m_undos) m_said)) H locs := hH
  refine lv_aload_n hx hb dX9_say_57 rfl (lv_at hl 0 rfl) ?_
  refine lv_dup hx hb dX9_say_58 rfl ?_
  refine gm_get (ci := 9) C0 hH inX9_say_X9 0 8 7 rfl rfl (by decide) rfl rfl dX9_say_59 ?_
  refine lv_iconst (v := 1) hx hb dX9_say_62 (by decide) ?_
  refine lv_iload_n hx hb dX9_say_63 rfl (lv_at hl 1 rfl) ?_
  refine lv_ishl hx hb dX9_say_64 ?_
  refine lv_ior hx hb dX9_say_65 ?_
  refine lv_topi (fun v4 ev4 => ?_)
  replace h := gm_let_e ev4 h
  refine gm_putf (ci := 9) C0 hH inX9_say_X9 tyX9_ok nmX9 0 8 7 rfl rfl (by decide) rfl rfl rfl rfl rfl (Nat.le_of_ble_eq_true rfl) dX9_say_66 (fun H locs hH => ?_)
  have hH : gm_H (dC, dI) A s (wX9_say cI q q_saidAhead q_ending q_meaning q_cost q_alikeTo q_kind q_want q_heardWord q_heardAnswer m_words m_people v4 v3 m_heard (upd m_saidAhead (Int32.toNatClampNeg m_undos) m_said)) H locs := hH
  obtain rfl := Option.some.inj h
  exact gm_vret C0 hH dX9_say_69
set_option maxRecDepth 100000 in
set_option maxHeartbeats 4000000 in
theorem mX9_say (l : Launch) (dC : Nat → ClassId) (dI : Nat → Nat → Nat) (cI : ClassId) (q q_saidAhead q_ending q_meaning q_cost q_alikeTo q_kind q_want q_heardWord q_heardAnswer : Nat) (m_words : Int32) (m_people : Int32) (m_said : Int32) (m_undos : Int32) (m_heard : Int32) (m_saidAhead : Nat → Int32) (x1 : Int32)  {N : Nat} {out : Int32 × Int32 × (Nat → Int32)} (h : fX9_say N m_said m_undos m_saidAhead x1 = some out) : gm_Met l yX9_say wsX9_say rX9_say (dC, dI) [(cI, .int)] gm_T [.ref q, .int x1] (wX9_say cI q q_saidAhead q_ending q_meaning q_cost q_alikeTo q_kind q_want q_heardWord q_heardAnswer m_words m_people m_said m_undos m_heard m_saidAhead) none (wX9_say cI q q_saidAhead q_ending q_meaning q_cost q_alikeTo q_kind q_want q_heardWord q_heardAnswer m_words m_people out.1 out.2.1 m_heard out.2.2) := by
  refine gm_ofW (cc := cX9_say) (maxL := 2) (ret := none) (by decide +kernel) rfl (Nat.le_of_ble_eq_true rfl) ?_
  intro p e s m below meth c A C0 hH ls hl
  generalize ([.ref q, .int x1] : List Value).toArray = args at C0 ⊢
  have hl : lv_has ls 2 [(0, .ref q), (1, .int x1)] := hl
  generalize s.heap = H at hH ⊢
  generalize ([] : List Loc) = locs at hH ⊢
  obtain ⟨hx, hb, hml, hr, hown, hts, hA, hK, hX, hlocks⟩ := id C0
  unfold fX9_say at h
  refine lv_aload_n hx hb dX9_say_0 rfl (lv_at hl 0 rfl) ?_
  refine gm_get (ci := 9) C0 hH inX9_say_X9 0 10 1 rfl rfl (by decide) rfl rfl dX9_say_1 ?_
  refine lv_bipush (v := 8) hx hb dX9_say_4 (by decide) ?_
  refine lv_icmp_ne (tgt := 34) hx hb dX9_say_6 (by decide) (fun hc1 => ?_) (fun hc1 => ?_)
  · replace h := gm_neg hc1 h
    exact tX9_say_b34 C0  h hH (lv_sub hl [0, 1] rfl)
  · replace h := gm_pos hc1 h
    refine lv_aload_n hx hb dX9_say_9 rfl (lv_at hl 0 rfl) ?_
    refine gm_get (ci := 9) C0 hH inX9_say_X9 0 9 2 rfl rfl (by decide) rfl rfl dX9_say_10 ?_
    refine lv_iconst (v := 1) hx hb dX9_say_13 (by decide) ?_
    refine lv_aload_n hx hb dX9_say_14 rfl (lv_at hl 0 rfl) ?_
    refine gm_get (ci := 9) C0 hH inX9_say_X9 0 9 2 rfl rfl (by decide) rfl rfl dX9_say_15 ?_
    refine lv_iconst (v := 0) hx hb dX9_say_18 (by decide) ?_
    refine lv_bipush (v := 7) hx hb dX9_say_19 (by decide) ?_
    refine va_copyi (sp := 1) (dp := 0) (n := 7) (ty := .int) hx hb (by rw [hml]; exact hl.1.symm) hown (gm_at C0 3 rfl) (gm_at C0 4 rfl) (gm_at C0 5 rfl) (gm_at C0 6 rfl) hK hH.1 hH.2.1 hH.2.2 1 1 0 0 rfl rfl rfl rfl rfl (by decide) (by decide) (by decide) (by decide) (by decide) (fun _ _ => rfl) (by decide) (by decide) dX9_say_21 (fun H locs h1 h2 h3 => ?_)
    have hH : gm_H (dC, dI) A s (wX9_say cI q q_saidAhead q_ending q_meaning q_cost q_alikeTo q_kind q_want q_heardWord q_heardAnswer m_words m_people m_said m_undos m_heard (va_cpy m_saidAhead m_saidAhead (1 : Int32).toNatClampNeg (0 : Int32).toNatClampNeg (7 : Int32).toNatClampNeg)) H locs := ⟨h1, h2, h3⟩
    refine lv_aload_n hx hb dX9_say_24 rfl (lv_at hl 0 rfl) ?_
    refine lv_dup hx hb dX9_say_25 rfl ?_
    refine gm_get (ci := 9) C0 hH inX9_say_X9 0 10 1 rfl rfl (by decide) rfl rfl dX9_say_26 ?_
    refine lv_iconst (v := 1) hx hb dX9_say_29 (by decide) ?_
    refine lv_isub hx hb dX9_say_30 ?_
    refine lv_topi (fun v5 ev5 => ?_)
    replace h := gm_let_e ev5 h
    refine gm_putf (ci := 9) C0 hH inX9_say_X9 tyX9_ok nmX9 0 10 1 rfl rfl (by decide) rfl rfl rfl rfl rfl (Nat.le_of_ble_eq_true rfl) dX9_say_31 (fun H locs hH => ?_)
    have hH : gm_H (dC, dI) A s (wX9_say cI q q_saidAhead q_ending q_meaning q_cost q_alikeTo q_kind q_want q_heardWord q_heardAnswer m_words m_people m_said v5 m_heard (va_cpy m_saidAhead m_saidAhead (1 : Int32).toNatClampNeg (0 : Int32).toNatClampNeg (7 : Int32).toNatClampNeg)) H locs := hH
    exact tX9_say_b34 C0  h hH (lv_sub hl [0, 1] rfl)

/-! X9_takeBack -/
abbrev wX9_takeBack (cI : ClassId) (q q_saidAhead q_ending q_meaning q_cost q_alikeTo q_kind q_want q_heardWord q_heardAnswer : Nat) (m_words : Int32) (m_people : Int32) (m_said : Int32) (m_undos : Int32) (m_heard : Int32) (m_saidAhead : Nat → Int32) : va_W := [(q, .inr (9, [.ref q_ending, .ref q_meaning, .ref q_cost, .int m_words, .ref q_alikeTo, .ref q_kind, .ref q_want, .int m_people, .int m_said, .ref q_saidAhead, .int m_undos, .ref q_heardWord, .ref q_heardAnswer, .int m_heard])), (q_saidAhead, .inl (cI, 8, .inl m_saidAhead))]
abbrev rX9_takeBack : Room := { frames := 0, cells := 0, slots := 0, locals := 0 }
def fX9_takeBack (N : Nat) (m_said : Int32) (m_undos : Int32) (m_saidAhead : Nat → Int32)  : Option (Int32 × Int32) := (if m_undos ≤ 0 then some (m_said, m_undos) else gm_let ((m_undos - 1) : Int32) (fun (v2 : Int32) => gm_chk v2 8 (gm_let ((m_saidAhead (Int32.toNatClampNeg v2)) : Int32) (fun (v4 : Int32) => some (v4, v2)))))
set_option maxRecDepth 20000 in
theorem inX9_takeBack_X9 : ∀ w ∈ u_ws RX9 TX9 14, w ∈ wsX9_takeBack := fun w h => by
  obtain ⟨k, hk, rfl⟩ := List.mem_map.mp h
  have hk2 := List.mem_range.mp hk
  exact List.mem_of_getElem? (i := 4 + k) (by rcases (show k = 0 ∨ k = 1 ∨ k = 2 ∨ k = 3 ∨ k = 4 ∨ k = 5 ∨ k = 6 ∨ k = 7 ∨ k = 8 ∨ k = 9 ∨ k = 10 ∨ k = 11 ∨ k = 12 ∨ k = 13 by omega) with rfl | rfl | rfl | rfl | rfl | rfl | rfl | rfl | rfl | rfl | rfl | rfl | rfl | rfl <;> rfl)
set_option maxRecDepth 100000 in
set_option maxHeartbeats 4000000 in
theorem mX9_takeBack (l : Launch) (dC : Nat → ClassId) (dI : Nat → Nat → Nat) (cI : ClassId) (q q_saidAhead q_ending q_meaning q_cost q_alikeTo q_kind q_want q_heardWord q_heardAnswer : Nat) (m_words : Int32) (m_people : Int32) (m_said : Int32) (m_undos : Int32) (m_heard : Int32) (m_saidAhead : Nat → Int32)   {N : Nat} {out : Int32 × Int32} (h : fX9_takeBack N m_said m_undos m_saidAhead = some out) : gm_Met l yX9_takeBack wsX9_takeBack rX9_takeBack (dC, dI) [(cI, .int)] gm_T [.ref q] (wX9_takeBack cI q q_saidAhead q_ending q_meaning q_cost q_alikeTo q_kind q_want q_heardWord q_heardAnswer m_words m_people m_said m_undos m_heard m_saidAhead) none (wX9_takeBack cI q q_saidAhead q_ending q_meaning q_cost q_alikeTo q_kind q_want q_heardWord q_heardAnswer m_words m_people out.1 out.2 m_heard m_saidAhead) := by
  refine gm_ofW (cc := cX9_takeBack) (maxL := 1) (ret := none) (by decide +kernel) rfl (Nat.le_of_ble_eq_true rfl) ?_
  intro p e s m below meth c A C0 hH ls hl
  generalize ([.ref q] : List Value).toArray = args at C0 ⊢
  have hl : lv_has ls 1 [(0, .ref q)] := hl
  generalize s.heap = H at hH ⊢
  generalize ([] : List Loc) = locs at hH ⊢
  obtain ⟨hx, hb, hml, hr, hown, hts, hA, hK, hX, hlocks⟩ := id C0
  unfold fX9_takeBack at h
  refine lv_aload_n hx hb dX9_takeBack_0 rfl (lv_at hl 0 rfl) ?_
  refine gm_get (ci := 9) C0 hH inX9_takeBack_X9 0 10 1 rfl rfl (by decide) rfl rfl dX9_takeBack_1 ?_
  refine lv_if_le (tgt := 30) hx hb dX9_takeBack_4 (by decide) (fun hc1 => ?_) (fun hc1 => ?_)
  · replace h := gm_pos hc1 h
    obtain rfl := Option.some.inj h
    exact gm_vret C0 hH dX9_takeBack_30
  · replace h := gm_neg hc1 h
    refine lv_aload_n hx hb dX9_takeBack_7 rfl (lv_at hl 0 rfl) ?_
    refine lv_dup hx hb dX9_takeBack_8 rfl ?_
    refine gm_get (ci := 9) C0 hH inX9_takeBack_X9 0 10 1 rfl rfl (by decide) rfl rfl dX9_takeBack_9 ?_
    refine lv_iconst (v := 1) hx hb dX9_takeBack_12 (by decide) ?_
    refine lv_isub hx hb dX9_takeBack_13 ?_
    refine lv_topi (fun v2 ev2 => ?_)
    replace h := gm_let_e ev2 h
    refine gm_putf (ci := 9) C0 hH inX9_takeBack_X9 tyX9_ok nmX9 0 10 1 rfl rfl (by decide) rfl rfl rfl rfl rfl (Nat.le_of_ble_eq_true rfl) dX9_takeBack_14 (fun H locs hH => ?_)
    have hH : gm_H (dC, dI) A s (wX9_takeBack cI q q_saidAhead q_ending q_meaning q_cost q_alikeTo q_kind q_want q_heardWord q_heardAnswer m_words m_people m_said v2 m_heard m_saidAhead) H locs := hH
    refine lv_aload_n hx hb dX9_takeBack_17 rfl (lv_at hl 0 rfl) ?_
    refine lv_aload_n hx hb dX9_takeBack_18 rfl (lv_at hl 0 rfl) ?_
    refine gm_get (ci := 9) C0 hH inX9_takeBack_X9 0 9 2 rfl rfl (by decide) rfl rfl dX9_takeBack_19 ?_
    refine lv_aload_n hx hb dX9_takeBack_22 rfl (lv_at hl 0 rfl) ?_
    refine gm_get (ci := 9) C0 hH inX9_takeBack_X9 0 10 1 rfl rfl (by decide) rfl rfl dX9_takeBack_23 ?_
    obtain ⟨hi3, h⟩ := gm_chk_e h
    refine gm_iald C0 hH hi3 1 0 rfl rfl dX9_takeBack_26 ?_
    refine lv_topi (fun v4 ev4 => ?_)
    replace h := gm_let_e ev4 h
    refine gm_putf (ci := 9) C0 hH inX9_takeBack_X9 tyX9_ok nmX9 0 8 3 rfl rfl (by decide) rfl rfl rfl rfl rfl (Nat.le_of_ble_eq_true rfl) dX9_takeBack_27 (fun H locs hH => ?_)
    have hH : gm_H (dC, dI) A s (wX9_takeBack cI q q_saidAhead q_ending q_meaning q_cost q_alikeTo q_kind q_want q_heardWord q_heardAnswer m_words m_people v4 v2 m_heard m_saidAhead) H locs := hH
    obtain rfl := Option.some.inj h
    exact gm_vret C0 hH dX9_takeBack_30

/-! X9_meaningsOf -/
abbrev wX9_meaningsOf (cI : ClassId) (q q_meaning q_ending q_cost q_alikeTo q_kind q_want q_saidAhead q_heardWord q_heardAnswer : Nat) (m_words : Int32) (m_people : Int32) (m_said : Int32) (m_undos : Int32) (m_heard : Int32) (m_meaning : Nat → Int32) : va_W := [(q, .inr (9, [.ref q_ending, .ref q_meaning, .ref q_cost, .int m_words, .ref q_alikeTo, .ref q_kind, .ref q_want, .int m_people, .int m_said, .ref q_saidAhead, .int m_undos, .ref q_heardWord, .ref q_heardAnswer, .int m_heard])), (q_meaning, .inl (cI, 10, .inl m_meaning))]
abbrev rX9_meaningsOf : Room := { frames := 0, cells := 0, slots := 0, locals := 0 }
def fX9_meaningsOf_b32 (N : Nat) (r4 : Int32 → Int32 → Option (Int32)) (m_words : Int32) (m_meaning : Nat → Int32) (x1 : Int32) (x2 : Int32) (x3 : Int32) : Option (Int32) := (r4 x2 ((x3 + 1)))
def fX9_meaningsOf_b4_body (N : Nat)  (m_words : Int32) (m_meaning : Nat → Int32) (x1 : Int32) (r4 : Int32 → Int32 → Option (Int32)) (x2 : Int32) (x3 : Int32) : Option (Int32) := (if m_words ≤ x3 then some (x2) else (if ((x1 >>> (x3 &&& 31)) &&& 1) = 1 then gm_chk x3 10 (gm_let ((x2 ||| ((1 : Int32) <<< ((m_meaning (Int32.toNatClampNeg x3)) &&& 31))) : Int32) (fun (v4 : Int32) => (fX9_meaningsOf_b32 N r4 m_words m_meaning x1 v4 x3))) else (fX9_meaningsOf_b32 N r4 m_words m_meaning x1 x2 x3)))
def fX9_meaningsOf_b4 (N : Nat)  (m_words : Int32) (m_meaning : Nat → Int32) (x1 : Int32) (x2 : Int32) (x3 : Int32) : Option (Int32) := gm_fix (fX9_meaningsOf_b4_body N  m_words m_meaning x1) (fun _ _ => none) N x2 x3
def fX9_meaningsOf (N : Nat) (m_words : Int32) (m_meaning : Nat → Int32) (x1 : Int32) : Option (Int32) := (fX9_meaningsOf_b4 N  m_words m_meaning x1 0 0)
set_option maxRecDepth 20000 in
theorem inX9_meaningsOf_X9 : ∀ w ∈ u_ws RX9 TX9 14, w ∈ wsX9_meaningsOf := fun w h => by
  obtain ⟨k, hk, rfl⟩ := List.mem_map.mp h
  have hk2 := List.mem_range.mp hk
  exact List.mem_of_getElem? (i := 3 + k) (by rcases (show k = 0 ∨ k = 1 ∨ k = 2 ∨ k = 3 ∨ k = 4 ∨ k = 5 ∨ k = 6 ∨ k = 7 ∨ k = 8 ∨ k = 9 ∨ k = 10 ∨ k = 11 ∨ k = 12 ∨ k = 13 by omega) with rfl | rfl | rfl | rfl | rfl | rfl | rfl | rfl | rfl | rfl | rfl | rfl | rfl | rfl <;> rfl)
set_option maxRecDepth 100000 in
set_option maxHeartbeats 4000000 in
theorem tX9_meaningsOf_b32 {p : Program} {l : Launch} {e : Env} {s : State} {m : MethodId} {args : Array Value} {below : List Frame} {meth : Method} {c : Code} {A : Nat → Prop} {dC : Nat → ClassId} {dI : Nat → Nat → Nat} {cI : ClassId} {q q_meaning q_ending q_cost q_alikeTo q_kind q_want q_saidAhead q_heardWord q_heardAnswer : Nat} {m_words : Int32} {m_people : Int32} {m_said : Int32} {m_undos : Int32} {m_heard : Int32} {m_meaning : Nat → Int32} {x1 : Int32} {x2 : Int32} {x3 : Int32} (C0 : gm_C p s m args meth c (dC, dI) [(cI, .int)] A gm_T RX9 cX9_meaningsOf 4 (some .int) wsX9_meaningsOf) {N : Nat} {out : Int32} {r4 : Int32 → Int32 → Option (Int32)} (hr4 : ∀ (x2 : Int32) (x3 : Int32) (H : Heap) (locs : List Loc) (ls : Array Slot), r4 x2 x3 = some out → gm_H (dC, dI) A s (wX9_meaningsOf cI q q_meaning q_ending q_cost q_alikeTo q_kind q_want q_saidAhead q_heardWord q_heardAnswer m_words m_people m_said m_undos m_heard m_meaning) H locs → lv_has ls 4 [(0, .ref q), (1, .int x1), (2, .int x2), (3, .int x3)] → W p l e rX9_meaningsOf s m args below meth c H locs 0 0 (MQ below (gm_Q (dC, dI) [(cI, .int)] A (some (.int out)) (wX9_meaningsOf cI q q_meaning q_ending q_cost q_alikeTo q_kind q_want q_saidAhead q_heardWord q_heardAnswer m_words m_people m_said m_undos m_heard m_meaning)) args s 0 0 A) (F0 m 4 ls []))   {H : Heap} {locs : List Loc} {ls : Array Slot} (h : fX9_meaningsOf_b32 N r4 m_words m_meaning x1 x2 x3 = some out) (hH : gm_H (dC, dI) A s (wX9_meaningsOf cI q q_meaning q_ending q_cost q_alikeTo q_kind q_want q_saidAhead q_heardWord q_heardAnswer m_words m_people m_said m_undos m_heard m_meaning) H locs) (hl : lv_has ls 4 [(0, .ref q), (1, .int x1), (2, .int x2), (3, .int x3)]) : W p l e rX9_meaningsOf s m args below meth c H locs 0 0 (MQ below (gm_Q (dC, dI) [(cI, .int)] A (some (.int out)) (wX9_meaningsOf cI q q_meaning q_ending q_cost q_alikeTo q_kind q_want q_saidAhead q_heardWord q_heardAnswer m_words m_people m_said m_undos m_heard m_meaning)) args s 0 0 A) (F0 m 32 ls []) := by
  obtain ⟨hx, hb, hml, hr, hown, hts, hA, hK, hX, hlocks⟩ := id C0
  unfold fX9_meaningsOf_b32 at h
  refine lv_iinc (v := (x3 + 1)) (lv' := [(3, .int (x3 + 1)), (0, .ref q), (1, .int x1), (2, .int x2)]) hx hb dX9_meaningsOf_32 hl (k := 3) rfl rfl (by decide) rfl (fun ls hl => ?_)
  refine lv_goto (tgt := 4) hx hb dX9_meaningsOf_35 (by decide) ?_
  exact hr4 _ _ _ _ _ h hH (lv_sub hl [1, 2, 3, 0] rfl)
set_option maxRecDepth 100000 in
set_option maxHeartbeats 4000000 in
theorem tX9_meaningsOf_b4 {p : Program} {l : Launch} {e : Env} {s : State} {m : MethodId} {args : Array Value} {below : List Frame} {meth : Method} {c : Code} {A : Nat → Prop} {dC : Nat → ClassId} {dI : Nat → Nat → Nat} {cI : ClassId} {q q_meaning q_ending q_cost q_alikeTo q_kind q_want q_saidAhead q_heardWord q_heardAnswer : Nat} {m_words : Int32} {m_people : Int32} {m_said : Int32} {m_undos : Int32} {m_heard : Int32} {m_meaning : Nat → Int32} {x1 : Int32} (C0 : gm_C p s m args meth c (dC, dI) [(cI, .int)] A gm_T RX9 cX9_meaningsOf 4 (some .int) wsX9_meaningsOf) {N : Nat} {out : Int32}   : ∀ (n : Nat), ∀ (x2 : Int32) (x3 : Int32) (H : Heap) (locs : List Loc) (ls : Array Slot), (gm_fix (fX9_meaningsOf_b4_body N  m_words m_meaning x1) (fun _ _ => none) n) x2 x3 = some out → gm_H (dC, dI) A s (wX9_meaningsOf cI q q_meaning q_ending q_cost q_alikeTo q_kind q_want q_saidAhead q_heardWord q_heardAnswer m_words m_people m_said m_undos m_heard m_meaning) H locs → lv_has ls 4 [(0, .ref q), (1, .int x1), (2, .int x2), (3, .int x3)] → W p l e rX9_meaningsOf s m args below meth c H locs 0 0 (MQ below (gm_Q (dC, dI) [(cI, .int)] A (some (.int out)) (wX9_meaningsOf cI q q_meaning q_ending q_cost q_alikeTo q_kind q_want q_saidAhead q_heardWord q_heardAnswer m_words m_people m_said m_undos m_heard m_meaning)) args s 0 0 A) (F0 m 4 ls []) := by
  obtain ⟨hx, hb, hml, hr, hown, hts, hA, hK, hX, hlocks⟩ := id C0
  intro n
  induction n with
  | zero =>
    intro x2 x3 H locs ls h hH hl
    cases h
  | succ n hr4 =>
    intro x2 x3 H locs ls h hH hl
    rw [gm_fix_s] at h
    unfold fX9_meaningsOf_b4_body at h
    refine lv_iload_n hx hb dX9_meaningsOf_4 rfl (lv_at hl 3 rfl) ?_
    refine lv_aload_n hx hb dX9_meaningsOf_5 rfl (lv_at hl 0 rfl) ?_
    refine gm_get (ci := 9) C0 hH inX9_meaningsOf_X9 0 3 1 rfl rfl (by decide) rfl rfl dX9_meaningsOf_6 ?_
    refine lv_icmp_ge (tgt := 38) hx hb dX9_meaningsOf_9 (by decide) (fun hc1 => ?_) (fun hc1 => ?_)
    · replace h := gm_pos hc1 h
      refine lv_iload_n hx hb dX9_meaningsOf_38 rfl (lv_at hl 2 rfl) ?_
      obtain rfl := Option.some.inj h
      exact gm_iret C0 hH dX9_meaningsOf_39
    · replace h := gm_neg hc1 h
      refine lv_iload_n hx hb dX9_meaningsOf_12 rfl (lv_at hl 1 rfl) ?_
      refine lv_iload_n hx hb dX9_meaningsOf_13 rfl (lv_at hl 3 rfl) ?_
      refine lv_ishr hx hb dX9_meaningsOf_14 ?_
      refine lv_iconst (v := 1) hx hb dX9_meaningsOf_15 (by decide) ?_
      refine lv_iand hx hb dX9_meaningsOf_16 ?_
      refine lv_iconst (v := 1) hx hb dX9_meaningsOf_17 (by decide) ?_
      refine lv_icmp_ne (tgt := 32) hx hb dX9_meaningsOf_18 (by decide) (fun hc2 => ?_) (fun hc2 => ?_)
      · replace h := gm_neg hc2 h
        exact tX9_meaningsOf_b32 C0 hr4 h hH (lv_sub hl [0, 1, 2, 3] rfl)
      · replace h := gm_pos hc2 h
        refine lv_iload_n hx hb dX9_meaningsOf_21 rfl (lv_at hl 2 rfl) ?_
        refine lv_iconst (v := 1) hx hb dX9_meaningsOf_22 (by decide) ?_
        refine lv_aload_n hx hb dX9_meaningsOf_23 rfl (lv_at hl 0 rfl) ?_
        refine gm_get (ci := 9) C0 hH inX9_meaningsOf_X9 0 1 2 rfl rfl (by decide) rfl rfl dX9_meaningsOf_24 ?_
        refine lv_iload_n hx hb dX9_meaningsOf_27 rfl (lv_at hl 3 rfl) ?_
        obtain ⟨hi3, h⟩ := gm_chk_e h
        refine gm_iald C0 hH hi3 1 0 rfl rfl dX9_meaningsOf_28 ?_
        refine lv_ishl hx hb dX9_meaningsOf_29 ?_
        refine lv_ior hx hb dX9_meaningsOf_30 ?_
        refine lv_topi (fun v4 ev4 => ?_)
        replace h := gm_let_e ev4 h
        refine lv_istore_n (lv' := [(2, .int v4), (0, .ref q), (1, .int x1), (3, .int x3)]) hx hb dX9_meaningsOf_31 rfl hl (by decide) rfl (fun ls hl => ?_)
        exact tX9_meaningsOf_b32 C0 hr4 h hH (lv_sub hl [1, 2, 0, 3] rfl)
set_option maxRecDepth 100000 in
set_option maxHeartbeats 4000000 in
theorem mX9_meaningsOf (l : Launch) (dC : Nat → ClassId) (dI : Nat → Nat → Nat) (cI : ClassId) (q q_meaning q_ending q_cost q_alikeTo q_kind q_want q_saidAhead q_heardWord q_heardAnswer : Nat) (m_words : Int32) (m_people : Int32) (m_said : Int32) (m_undos : Int32) (m_heard : Int32) (m_meaning : Nat → Int32) (x1 : Int32)  {N : Nat} {out : Int32} (h : fX9_meaningsOf N m_words m_meaning x1 = some out) : gm_Met l yX9_meaningsOf wsX9_meaningsOf rX9_meaningsOf (dC, dI) [(cI, .int)] gm_T [.ref q, .int x1] (wX9_meaningsOf cI q q_meaning q_ending q_cost q_alikeTo q_kind q_want q_saidAhead q_heardWord q_heardAnswer m_words m_people m_said m_undos m_heard m_meaning) (some (.int out)) (wX9_meaningsOf cI q q_meaning q_ending q_cost q_alikeTo q_kind q_want q_saidAhead q_heardWord q_heardAnswer m_words m_people m_said m_undos m_heard m_meaning) := by
  refine gm_ofW (cc := cX9_meaningsOf) (maxL := 4) (ret := (some .int)) (by decide +kernel) rfl (Nat.le_of_ble_eq_true rfl) ?_
  intro p e s m below meth c A C0 hH ls hl
  generalize ([.ref q, .int x1] : List Value).toArray = args at C0 ⊢
  have hl : lv_has ls 4 [(0, .ref q), (1, .int x1)] := hl
  generalize s.heap = H at hH ⊢
  generalize ([] : List Loc) = locs at hH ⊢
  obtain ⟨hx, hb, hml, hr, hown, hts, hA, hK, hX, hlocks⟩ := id C0
  unfold fX9_meaningsOf at h
  refine lv_iconst (v := 0) hx hb dX9_meaningsOf_0 (by decide) ?_
  refine lv_istore_n (lv' := [(2, .int 0), (0, .ref q), (1, .int x1)]) hx hb dX9_meaningsOf_1 rfl hl (by decide) rfl (fun ls hl => ?_)
  refine lv_iconst (v := 0) hx hb dX9_meaningsOf_2 (by decide) ?_
  refine lv_istore_n (lv' := [(3, .int 0), (2, .int 0), (0, .ref q), (1, .int x1)]) hx hb dX9_meaningsOf_3 rfl hl (by decide) rfl (fun ls hl => ?_)
  unfold fX9_meaningsOf_b4 at h
  exact tX9_meaningsOf_b4 C0  _ _ _ _ _ _ h hH (lv_sub hl [2, 3, 1, 0] rfl)

/-! X9_costOf -/
abbrev wX9_costOf (cI : ClassId) (q q_cost q_ending q_meaning q_alikeTo q_kind q_want q_saidAhead q_heardWord q_heardAnswer : Nat) (m_words : Int32) (m_people : Int32) (m_said : Int32) (m_undos : Int32) (m_heard : Int32) (m_cost : Nat → Int32) : va_W := [(q, .inr (9, [.ref q_ending, .ref q_meaning, .ref q_cost, .int m_words, .ref q_alikeTo, .ref q_kind, .ref q_want, .int m_people, .int m_said, .ref q_saidAhead, .int m_undos, .ref q_heardWord, .ref q_heardAnswer, .int m_heard])), (q_cost, .inl (cI, 10, .inl m_cost))]
abbrev rX9_costOf : Room := { frames := 0, cells := 0, slots := 0, locals := 0 }
def fX9_costOf_b30 (N : Nat) (r4 : Int32 → Int32 → Option (Int32)) (m_words : Int32) (m_cost : Nat → Int32) (x1 : Int32) (x2 : Int32) (x3 : Int32) : Option (Int32) := (r4 x2 ((x3 + 1)))
def fX9_costOf_b4_body (N : Nat)  (m_words : Int32) (m_cost : Nat → Int32) (x1 : Int32) (r4 : Int32 → Int32 → Option (Int32)) (x2 : Int32) (x3 : Int32) : Option (Int32) := (if m_words ≤ x3 then some (x2) else (if ((x1 >>> (x3 &&& 31)) &&& 1) = 1 then gm_chk x3 10 (gm_let ((x2 + (m_cost (Int32.toNatClampNeg x3))) : Int32) (fun (v4 : Int32) => (fX9_costOf_b30 N r4 m_words m_cost x1 v4 x3))) else (fX9_costOf_b30 N r4 m_words m_cost x1 x2 x3)))
def fX9_costOf_b4 (N : Nat)  (m_words : Int32) (m_cost : Nat → Int32) (x1 : Int32) (x2 : Int32) (x3 : Int32) : Option (Int32) := gm_fix (fX9_costOf_b4_body N  m_words m_cost x1) (fun _ _ => none) N x2 x3
def fX9_costOf (N : Nat) (m_words : Int32) (m_cost : Nat → Int32) (x1 : Int32) : Option (Int32) := (fX9_costOf_b4 N  m_words m_cost x1 0 0)
set_option maxRecDepth 20000 in
theorem inX9_costOf_X9 : ∀ w ∈ u_ws RX9 TX9 14, w ∈ wsX9_costOf := fun w h => by
  obtain ⟨k, hk, rfl⟩ := List.mem_map.mp h
  have hk2 := List.mem_range.mp hk
  exact List.mem_of_getElem? (i := 3 + k) (by rcases (show k = 0 ∨ k = 1 ∨ k = 2 ∨ k = 3 ∨ k = 4 ∨ k = 5 ∨ k = 6 ∨ k = 7 ∨ k = 8 ∨ k = 9 ∨ k = 10 ∨ k = 11 ∨ k = 12 ∨ k = 13 by omega) with rfl | rfl | rfl | rfl | rfl | rfl | rfl | rfl | rfl | rfl | rfl | rfl | rfl | rfl <;> rfl)
set_option maxRecDepth 100000 in
set_option maxHeartbeats 4000000 in
theorem tX9_costOf_b30 {p : Program} {l : Launch} {e : Env} {s : State} {m : MethodId} {args : Array Value} {below : List Frame} {meth : Method} {c : Code} {A : Nat → Prop} {dC : Nat → ClassId} {dI : Nat → Nat → Nat} {cI : ClassId} {q q_cost q_ending q_meaning q_alikeTo q_kind q_want q_saidAhead q_heardWord q_heardAnswer : Nat} {m_words : Int32} {m_people : Int32} {m_said : Int32} {m_undos : Int32} {m_heard : Int32} {m_cost : Nat → Int32} {x1 : Int32} {x2 : Int32} {x3 : Int32} (C0 : gm_C p s m args meth c (dC, dI) [(cI, .int)] A gm_T RX9 cX9_costOf 4 (some .int) wsX9_costOf) {N : Nat} {out : Int32} {r4 : Int32 → Int32 → Option (Int32)} (hr4 : ∀ (x2 : Int32) (x3 : Int32) (H : Heap) (locs : List Loc) (ls : Array Slot), r4 x2 x3 = some out → gm_H (dC, dI) A s (wX9_costOf cI q q_cost q_ending q_meaning q_alikeTo q_kind q_want q_saidAhead q_heardWord q_heardAnswer m_words m_people m_said m_undos m_heard m_cost) H locs → lv_has ls 4 [(0, .ref q), (1, .int x1), (2, .int x2), (3, .int x3)] → W p l e rX9_costOf s m args below meth c H locs 0 0 (MQ below (gm_Q (dC, dI) [(cI, .int)] A (some (.int out)) (wX9_costOf cI q q_cost q_ending q_meaning q_alikeTo q_kind q_want q_saidAhead q_heardWord q_heardAnswer m_words m_people m_said m_undos m_heard m_cost)) args s 0 0 A) (F0 m 4 ls []))   {H : Heap} {locs : List Loc} {ls : Array Slot} (h : fX9_costOf_b30 N r4 m_words m_cost x1 x2 x3 = some out) (hH : gm_H (dC, dI) A s (wX9_costOf cI q q_cost q_ending q_meaning q_alikeTo q_kind q_want q_saidAhead q_heardWord q_heardAnswer m_words m_people m_said m_undos m_heard m_cost) H locs) (hl : lv_has ls 4 [(0, .ref q), (1, .int x1), (2, .int x2), (3, .int x3)]) : W p l e rX9_costOf s m args below meth c H locs 0 0 (MQ below (gm_Q (dC, dI) [(cI, .int)] A (some (.int out)) (wX9_costOf cI q q_cost q_ending q_meaning q_alikeTo q_kind q_want q_saidAhead q_heardWord q_heardAnswer m_words m_people m_said m_undos m_heard m_cost)) args s 0 0 A) (F0 m 30 ls []) := by
  obtain ⟨hx, hb, hml, hr, hown, hts, hA, hK, hX, hlocks⟩ := id C0
  unfold fX9_costOf_b30 at h
  refine lv_iinc (v := (x3 + 1)) (lv' := [(3, .int (x3 + 1)), (0, .ref q), (1, .int x1), (2, .int x2)]) hx hb dX9_costOf_30 hl (k := 3) rfl rfl (by decide) rfl (fun ls hl => ?_)
  refine lv_goto (tgt := 4) hx hb dX9_costOf_33 (by decide) ?_
  exact hr4 _ _ _ _ _ h hH (lv_sub hl [1, 2, 3, 0] rfl)
set_option maxRecDepth 100000 in
set_option maxHeartbeats 4000000 in
theorem tX9_costOf_b4 {p : Program} {l : Launch} {e : Env} {s : State} {m : MethodId} {args : Array Value} {below : List Frame} {meth : Method} {c : Code} {A : Nat → Prop} {dC : Nat → ClassId} {dI : Nat → Nat → Nat} {cI : ClassId} {q q_cost q_ending q_meaning q_alikeTo q_kind q_want q_saidAhead q_heardWord q_heardAnswer : Nat} {m_words : Int32} {m_people : Int32} {m_said : Int32} {m_undos : Int32} {m_heard : Int32} {m_cost : Nat → Int32} {x1 : Int32} (C0 : gm_C p s m args meth c (dC, dI) [(cI, .int)] A gm_T RX9 cX9_costOf 4 (some .int) wsX9_costOf) {N : Nat} {out : Int32}   : ∀ (n : Nat), ∀ (x2 : Int32) (x3 : Int32) (H : Heap) (locs : List Loc) (ls : Array Slot), (gm_fix (fX9_costOf_b4_body N  m_words m_cost x1) (fun _ _ => none) n) x2 x3 = some out → gm_H (dC, dI) A s (wX9_costOf cI q q_cost q_ending q_meaning q_alikeTo q_kind q_want q_saidAhead q_heardWord q_heardAnswer m_words m_people m_said m_undos m_heard m_cost) H locs → lv_has ls 4 [(0, .ref q), (1, .int x1), (2, .int x2), (3, .int x3)] → W p l e rX9_costOf s m args below meth c H locs 0 0 (MQ below (gm_Q (dC, dI) [(cI, .int)] A (some (.int out)) (wX9_costOf cI q q_cost q_ending q_meaning q_alikeTo q_kind q_want q_saidAhead q_heardWord q_heardAnswer m_words m_people m_said m_undos m_heard m_cost)) args s 0 0 A) (F0 m 4 ls []) := by
  obtain ⟨hx, hb, hml, hr, hown, hts, hA, hK, hX, hlocks⟩ := id C0
  intro n
  induction n with
  | zero =>
    intro x2 x3 H locs ls h hH hl
    cases h
  | succ n hr4 =>
    intro x2 x3 H locs ls h hH hl
    rw [gm_fix_s] at h
    unfold fX9_costOf_b4_body at h
    refine lv_iload_n hx hb dX9_costOf_4 rfl (lv_at hl 3 rfl) ?_
    refine lv_aload_n hx hb dX9_costOf_5 rfl (lv_at hl 0 rfl) ?_
    refine gm_get (ci := 9) C0 hH inX9_costOf_X9 0 3 1 rfl rfl (by decide) rfl rfl dX9_costOf_6 ?_
    refine lv_icmp_ge (tgt := 36) hx hb dX9_costOf_9 (by decide) (fun hc1 => ?_) (fun hc1 => ?_)
    · replace h := gm_pos hc1 h
      refine lv_iload_n hx hb dX9_costOf_36 rfl (lv_at hl 2 rfl) ?_
      obtain rfl := Option.some.inj h
      exact gm_iret C0 hH dX9_costOf_37
    · replace h := gm_neg hc1 h
      refine lv_iload_n hx hb dX9_costOf_12 rfl (lv_at hl 1 rfl) ?_
      refine lv_iload_n hx hb dX9_costOf_13 rfl (lv_at hl 3 rfl) ?_
      refine lv_ishr hx hb dX9_costOf_14 ?_
      refine lv_iconst (v := 1) hx hb dX9_costOf_15 (by decide) ?_
      refine lv_iand hx hb dX9_costOf_16 ?_
      refine lv_iconst (v := 1) hx hb dX9_costOf_17 (by decide) ?_
      refine lv_icmp_ne (tgt := 30) hx hb dX9_costOf_18 (by decide) (fun hc2 => ?_) (fun hc2 => ?_)
      · replace h := gm_neg hc2 h
        exact tX9_costOf_b30 C0 hr4 h hH (lv_sub hl [0, 1, 2, 3] rfl)
      · replace h := gm_pos hc2 h
        refine lv_iload_n hx hb dX9_costOf_21 rfl (lv_at hl 2 rfl) ?_
        refine lv_aload_n hx hb dX9_costOf_22 rfl (lv_at hl 0 rfl) ?_
        refine gm_get (ci := 9) C0 hH inX9_costOf_X9 0 2 2 rfl rfl (by decide) rfl rfl dX9_costOf_23 ?_
        refine lv_iload_n hx hb dX9_costOf_26 rfl (lv_at hl 3 rfl) ?_
        obtain ⟨hi3, h⟩ := gm_chk_e h
        refine gm_iald C0 hH hi3 1 0 rfl rfl dX9_costOf_27 ?_
        refine lv_iadd hx hb dX9_costOf_28 ?_
        refine lv_topi (fun v4 ev4 => ?_)
        replace h := gm_let_e ev4 h
        refine lv_istore_n (lv' := [(2, .int v4), (0, .ref q), (1, .int x1), (3, .int x3)]) hx hb dX9_costOf_29 rfl hl (by decide) rfl (fun ls hl => ?_)
        exact tX9_costOf_b30 C0 hr4 h hH (lv_sub hl [1, 2, 0, 3] rfl)
set_option maxRecDepth 100000 in
set_option maxHeartbeats 4000000 in
theorem mX9_costOf (l : Launch) (dC : Nat → ClassId) (dI : Nat → Nat → Nat) (cI : ClassId) (q q_cost q_ending q_meaning q_alikeTo q_kind q_want q_saidAhead q_heardWord q_heardAnswer : Nat) (m_words : Int32) (m_people : Int32) (m_said : Int32) (m_undos : Int32) (m_heard : Int32) (m_cost : Nat → Int32) (x1 : Int32)  {N : Nat} {out : Int32} (h : fX9_costOf N m_words m_cost x1 = some out) : gm_Met l yX9_costOf wsX9_costOf rX9_costOf (dC, dI) [(cI, .int)] gm_T [.ref q, .int x1] (wX9_costOf cI q q_cost q_ending q_meaning q_alikeTo q_kind q_want q_saidAhead q_heardWord q_heardAnswer m_words m_people m_said m_undos m_heard m_cost) (some (.int out)) (wX9_costOf cI q q_cost q_ending q_meaning q_alikeTo q_kind q_want q_saidAhead q_heardWord q_heardAnswer m_words m_people m_said m_undos m_heard m_cost) := by
  refine gm_ofW (cc := cX9_costOf) (maxL := 4) (ret := (some .int)) (by decide +kernel) rfl (Nat.le_of_ble_eq_true rfl) ?_
  intro p e s m below meth c A C0 hH ls hl
  generalize ([.ref q, .int x1] : List Value).toArray = args at C0 ⊢
  have hl : lv_has ls 4 [(0, .ref q), (1, .int x1)] := hl
  generalize s.heap = H at hH ⊢
  generalize ([] : List Loc) = locs at hH ⊢
  obtain ⟨hx, hb, hml, hr, hown, hts, hA, hK, hX, hlocks⟩ := id C0
  unfold fX9_costOf at h
  refine lv_iconst (v := 0) hx hb dX9_costOf_0 (by decide) ?_
  refine lv_istore_n (lv' := [(2, .int 0), (0, .ref q), (1, .int x1)]) hx hb dX9_costOf_1 rfl hl (by decide) rfl (fun ls hl => ?_)
  refine lv_iconst (v := 0) hx hb dX9_costOf_2 (by decide) ?_
  refine lv_istore_n (lv' := [(3, .int 0), (2, .int 0), (0, .ref q), (1, .int x1)]) hx hb dX9_costOf_3 rfl hl (by decide) rfl (fun ls hl => ?_)
  unfold fX9_costOf_b4 at h
  exact tX9_costOf_b4 C0  _ _ _ _ _ _ h hH (lv_sub hl [2, 3, 1, 0] rfl)

/-! X9_firstOf -/
abbrev wX9_firstOf (cI : ClassId) (q q_meaning q_ending q_cost q_alikeTo q_kind q_want q_saidAhead q_heardWord q_heardAnswer : Nat) (m_words : Int32) (m_people : Int32) (m_said : Int32) (m_undos : Int32) (m_heard : Int32) (m_meaning : Nat → Int32) : va_W := [(q, .inr (9, [.ref q_ending, .ref q_meaning, .ref q_cost, .int m_words, .ref q_alikeTo, .ref q_kind, .ref q_want, .int m_people, .int m_said, .ref q_saidAhead, .int m_undos, .ref q_heardWord, .ref q_heardAnswer, .int m_heard])), (q_meaning, .inl (cI, 10, .inl m_meaning))]
abbrev rX9_firstOf : Room := { frames := 0, cells := 0, slots := 0, locals := 0 }
def fX9_firstOf_b46 (N : Nat) (r5 : Int32 → Int32 → Option (Int32)) (m_words : Int32) (m_meaning : Nat → Int32) (x1 : Int32) (x2 : Int32) (x3 : Int32) (x4 : Int32) : Option (Int32) := (r5 x3 ((x4 + 1)))
def fX9_firstOf_b5_body (N : Nat)  (m_words : Int32) (m_meaning : Nat → Int32) (x1 : Int32) (x2 : Int32) (r5 : Int32 → Int32 → Option (Int32)) (x3 : Int32) (x4 : Int32) : Option (Int32) := (if m_words ≤ x4 then some (x3) else (if ((x1 >>> (x4 &&& 31)) &&& 1) = 1 then gm_chk x4 10 ((if (m_meaning (Int32.toNatClampNeg x4)) = x2 then some (x4) else (if x3 = (-1) then (fX9_firstOf_b46 N r5 m_words m_meaning x1 x2 x4 x4) else (fX9_firstOf_b46 N r5 m_words m_meaning x1 x2 x3 x4)))) else (fX9_firstOf_b46 N r5 m_words m_meaning x1 x2 x3 x4)))
def fX9_firstOf_b5 (N : Nat)  (m_words : Int32) (m_meaning : Nat → Int32) (x1 : Int32) (x2 : Int32) (x3 : Int32) (x4 : Int32) : Option (Int32) := gm_fix (fX9_firstOf_b5_body N  m_words m_meaning x1 x2) (fun _ _ => none) N x3 x4
def fX9_firstOf (N : Nat) (m_words : Int32) (m_meaning : Nat → Int32) (x1 : Int32) (x2 : Int32) : Option (Int32) := (fX9_firstOf_b5 N  m_words m_meaning x1 x2 ((-1)) 0)
set_option maxRecDepth 20000 in
theorem inX9_firstOf_X9 : ∀ w ∈ u_ws RX9 TX9 14, w ∈ wsX9_firstOf := fun w h => by
  obtain ⟨k, hk, rfl⟩ := List.mem_map.mp h
  have hk2 := List.mem_range.mp hk
  exact List.mem_of_getElem? (i := 3 + k) (by rcases (show k = 0 ∨ k = 1 ∨ k = 2 ∨ k = 3 ∨ k = 4 ∨ k = 5 ∨ k = 6 ∨ k = 7 ∨ k = 8 ∨ k = 9 ∨ k = 10 ∨ k = 11 ∨ k = 12 ∨ k = 13 by omega) with rfl | rfl | rfl | rfl | rfl | rfl | rfl | rfl | rfl | rfl | rfl | rfl | rfl | rfl <;> rfl)
set_option maxRecDepth 100000 in
set_option maxHeartbeats 4000000 in
theorem tX9_firstOf_b46 {p : Program} {l : Launch} {e : Env} {s : State} {m : MethodId} {args : Array Value} {below : List Frame} {meth : Method} {c : Code} {A : Nat → Prop} {dC : Nat → ClassId} {dI : Nat → Nat → Nat} {cI : ClassId} {q q_meaning q_ending q_cost q_alikeTo q_kind q_want q_saidAhead q_heardWord q_heardAnswer : Nat} {m_words : Int32} {m_people : Int32} {m_said : Int32} {m_undos : Int32} {m_heard : Int32} {m_meaning : Nat → Int32} {x1 : Int32} {x2 : Int32} {x3 : Int32} {x4 : Int32} (C0 : gm_C p s m args meth c (dC, dI) [(cI, .int)] A gm_T RX9 cX9_firstOf 5 (some .int) wsX9_firstOf) {N : Nat} {out : Int32} {r5 : Int32 → Int32 → Option (Int32)} (hr5 : ∀ (x3 : Int32) (x4 : Int32) (H : Heap) (locs : List Loc) (ls : Array Slot), r5 x3 x4 = some out → gm_H (dC, dI) A s (wX9_firstOf cI q q_meaning q_ending q_cost q_alikeTo q_kind q_want q_saidAhead q_heardWord q_heardAnswer m_words m_people m_said m_undos m_heard m_meaning) H locs → lv_has ls 5 [(0, .ref q), (1, .int x1), (2, .int x2), (3, .int x3), (4, .int x4)] → W p l e rX9_firstOf s m args below meth c H locs 0 0 (MQ below (gm_Q (dC, dI) [(cI, .int)] A (some (.int out)) (wX9_firstOf cI q q_meaning q_ending q_cost q_alikeTo q_kind q_want q_saidAhead q_heardWord q_heardAnswer m_words m_people m_said m_undos m_heard m_meaning)) args s 0 0 A) (F0 m 5 ls []))   {H : Heap} {locs : List Loc} {ls : Array Slot} (h : fX9_firstOf_b46 N r5 m_words m_meaning x1 x2 x3 x4 = some out) (hH : gm_H (dC, dI) A s (wX9_firstOf cI q q_meaning q_ending q_cost q_alikeTo q_kind q_want q_saidAhead q_heardWord q_heardAnswer m_words m_people m_said m_undos m_heard m_meaning) H locs) (hl : lv_has ls 5 [(0, .ref q), (1, .int x1), (2, .int x2), (3, .int x3), (4, .int x4)]) : W p l e rX9_firstOf s m args below meth c H locs 0 0 (MQ below (gm_Q (dC, dI) [(cI, .int)] A (some (.int out)) (wX9_firstOf cI q q_meaning q_ending q_cost q_alikeTo q_kind q_want q_saidAhead q_heardWord q_heardAnswer m_words m_people m_said m_undos m_heard m_meaning)) args s 0 0 A) (F0 m 46 ls []) := by
  obtain ⟨hx, hb, hml, hr, hown, hts, hA, hK, hX, hlocks⟩ := id C0
  unfold fX9_firstOf_b46 at h
  refine lv_iinc (v := (x4 + 1)) (lv' := [(4, .int (x4 + 1)), (0, .ref q), (1, .int x1), (2, .int x2), (3, .int x3)]) hx hb dX9_firstOf_46 hl (k := 4) rfl rfl (by decide) rfl (fun ls hl => ?_)
  refine lv_goto (tgt := 5) hx hb dX9_firstOf_49 (by decide) ?_
  exact hr5 _ _ _ _ _ h hH (lv_sub hl [1, 2, 3, 4, 0] rfl)
set_option maxRecDepth 100000 in
set_option maxHeartbeats 4000000 in
theorem tX9_firstOf_b5 {p : Program} {l : Launch} {e : Env} {s : State} {m : MethodId} {args : Array Value} {below : List Frame} {meth : Method} {c : Code} {A : Nat → Prop} {dC : Nat → ClassId} {dI : Nat → Nat → Nat} {cI : ClassId} {q q_meaning q_ending q_cost q_alikeTo q_kind q_want q_saidAhead q_heardWord q_heardAnswer : Nat} {m_words : Int32} {m_people : Int32} {m_said : Int32} {m_undos : Int32} {m_heard : Int32} {m_meaning : Nat → Int32} {x1 : Int32} {x2 : Int32} (C0 : gm_C p s m args meth c (dC, dI) [(cI, .int)] A gm_T RX9 cX9_firstOf 5 (some .int) wsX9_firstOf) {N : Nat} {out : Int32}   : ∀ (n : Nat), ∀ (x3 : Int32) (x4 : Int32) (H : Heap) (locs : List Loc) (ls : Array Slot), (gm_fix (fX9_firstOf_b5_body N  m_words m_meaning x1 x2) (fun _ _ => none) n) x3 x4 = some out → gm_H (dC, dI) A s (wX9_firstOf cI q q_meaning q_ending q_cost q_alikeTo q_kind q_want q_saidAhead q_heardWord q_heardAnswer m_words m_people m_said m_undos m_heard m_meaning) H locs → lv_has ls 5 [(0, .ref q), (1, .int x1), (2, .int x2), (3, .int x3), (4, .int x4)] → W p l e rX9_firstOf s m args below meth c H locs 0 0 (MQ below (gm_Q (dC, dI) [(cI, .int)] A (some (.int out)) (wX9_firstOf cI q q_meaning q_ending q_cost q_alikeTo q_kind q_want q_saidAhead q_heardWord q_heardAnswer m_words m_people m_said m_undos m_heard m_meaning)) args s 0 0 A) (F0 m 5 ls []) := by
  obtain ⟨hx, hb, hml, hr, hown, hts, hA, hK, hX, hlocks⟩ := id C0
  intro n
  induction n with
  | zero =>
    intro x3 x4 H locs ls h hH hl
    cases h
  | succ n hr5 =>
    intro x3 x4 H locs ls h hH hl
    rw [gm_fix_s] at h
    unfold fX9_firstOf_b5_body at h
    refine lv_iload hx hb dX9_firstOf_5 (lv_at hl 4 rfl) ?_
    refine lv_aload_n hx hb dX9_firstOf_7 rfl (lv_at hl 0 rfl) ?_
    refine gm_get (ci := 9) C0 hH inX9_firstOf_X9 0 3 1 rfl rfl (by decide) rfl rfl dX9_firstOf_8 ?_
    refine lv_icmp_ge (tgt := 52) hx hb dX9_firstOf_11 (by decide) (fun hc1 => ?_) (fun hc1 => ?_)
    · replace h := gm_pos hc1 h
      refine lv_iload_n hx hb dX9_firstOf_52 rfl (lv_at hl 3 rfl) ?_
      obtain rfl := Option.some.inj h
      exact gm_iret C0 hH dX9_firstOf_53
    · replace h := gm_neg hc1 h
      refine lv_iload_n hx hb dX9_firstOf_14 rfl (lv_at hl 1 rfl) ?_
      refine lv_iload hx hb dX9_firstOf_15 (lv_at hl 4 rfl) ?_
      refine lv_ishr hx hb dX9_firstOf_17 ?_
      refine lv_iconst (v := 1) hx hb dX9_firstOf_18 (by decide) ?_
      refine lv_iand hx hb dX9_firstOf_19 ?_
      refine lv_iconst (v := 1) hx hb dX9_firstOf_20 (by decide) ?_
      refine lv_icmp_ne (tgt := 46) hx hb dX9_firstOf_21 (by decide) (fun hc2 => ?_) (fun hc2 => ?_)
      · replace h := gm_neg hc2 h
        exact tX9_firstOf_b46 C0 hr5 h hH (lv_sub hl [0, 1, 2, 3, 4] rfl)
      · replace h := gm_pos hc2 h
        refine lv_aload_n hx hb dX9_firstOf_24 rfl (lv_at hl 0 rfl) ?_
        refine gm_get (ci := 9) C0 hH inX9_firstOf_X9 0 1 2 rfl rfl (by decide) rfl rfl dX9_firstOf_25 ?_
        refine lv_iload hx hb dX9_firstOf_28 (lv_at hl 4 rfl) ?_
        obtain ⟨hi3, h⟩ := gm_chk_e h
        refine gm_iald C0 hH hi3 1 0 rfl rfl dX9_firstOf_30 ?_
        refine lv_iload_n hx hb dX9_firstOf_31 rfl (lv_at hl 2 rfl) ?_
        refine lv_icmp_ne (tgt := 38) hx hb dX9_firstOf_32 (by decide) (fun hc4 => ?_) (fun hc4 => ?_)
        · replace h := gm_neg hc4 h
          refine lv_iload_n hx hb dX9_firstOf_38 rfl (lv_at hl 3 rfl) ?_
          refine lv_iconst (v := (-1)) hx hb dX9_firstOf_39 (by decide) ?_
          refine lv_icmp_ne (tgt := 46) hx hb dX9_firstOf_40 (by decide) (fun hc5 => ?_) (fun hc5 => ?_)
          · replace h := gm_neg hc5 h
            exact tX9_firstOf_b46 C0 hr5 h hH (lv_sub hl [0, 1, 2, 3, 4] rfl)
          · replace h := gm_pos hc5 h
            refine lv_iload hx hb dX9_firstOf_43 (lv_at hl 4 rfl) ?_
            refine lv_istore_n (lv' := [(3, .int x4), (0, .ref q), (1, .int x1), (2, .int x2), (4, .int x4)]) hx hb dX9_firstOf_45 rfl hl (by decide) rfl (fun ls hl => ?_)
            exact tX9_firstOf_b46 C0 hr5 h hH (lv_sub hl [1, 2, 3, 0, 4] rfl)
        · replace h := gm_pos hc4 h
          refine lv_iload hx hb dX9_firstOf_35 (lv_at hl 4 rfl) ?_
          obtain rfl := Option.some.inj h
          exact gm_iret C0 hH dX9_firstOf_37
set_option maxRecDepth 100000 in
set_option maxHeartbeats 4000000 in
theorem mX9_firstOf (l : Launch) (dC : Nat → ClassId) (dI : Nat → Nat → Nat) (cI : ClassId) (q q_meaning q_ending q_cost q_alikeTo q_kind q_want q_saidAhead q_heardWord q_heardAnswer : Nat) (m_words : Int32) (m_people : Int32) (m_said : Int32) (m_undos : Int32) (m_heard : Int32) (m_meaning : Nat → Int32) (x1 : Int32) (x2 : Int32)  {N : Nat} {out : Int32} (h : fX9_firstOf N m_words m_meaning x1 x2 = some out) : gm_Met l yX9_firstOf wsX9_firstOf rX9_firstOf (dC, dI) [(cI, .int)] gm_T [.ref q, .int x1, .int x2] (wX9_firstOf cI q q_meaning q_ending q_cost q_alikeTo q_kind q_want q_saidAhead q_heardWord q_heardAnswer m_words m_people m_said m_undos m_heard m_meaning) (some (.int out)) (wX9_firstOf cI q q_meaning q_ending q_cost q_alikeTo q_kind q_want q_saidAhead q_heardWord q_heardAnswer m_words m_people m_said m_undos m_heard m_meaning) := by
  refine gm_ofW (cc := cX9_firstOf) (maxL := 5) (ret := (some .int)) (by decide +kernel) rfl (Nat.le_of_ble_eq_true rfl) ?_
  intro p e s m below meth c A C0 hH ls hl
  generalize ([.ref q, .int x1, .int x2] : List Value).toArray = args at C0 ⊢
  have hl : lv_has ls 5 [(0, .ref q), (1, .int x1), (2, .int x2)] := hl
  generalize s.heap = H at hH ⊢
  generalize ([] : List Loc) = locs at hH ⊢
  obtain ⟨hx, hb, hml, hr, hown, hts, hA, hK, hX, hlocks⟩ := id C0
  unfold fX9_firstOf at h
  refine lv_iconst (v := (-1)) hx hb dX9_firstOf_0 (by decide) ?_
  refine lv_istore_n (lv' := [(3, .int (-1)), (0, .ref q), (1, .int x1), (2, .int x2)]) hx hb dX9_firstOf_1 rfl hl (by decide) rfl (fun ls hl => ?_)
  refine lv_iconst (v := 0) hx hb dX9_firstOf_2 (by decide) ?_
  refine lv_istore (lv' := [(4, .int 0), (3, .int (-1)), (0, .ref q), (1, .int x1), (2, .int x2)]) hx hb dX9_firstOf_3 hl (by decide) rfl (fun ls hl => ?_)
  unfold fX9_firstOf_b5 at h
  exact tX9_firstOf_b5 C0  _ _ _ _ _ _ h hH (lv_sub hl [2, 3, 4, 1, 0] rfl)

/-! X9_digestFrom -/
abbrev wX9_digestFrom (cI : ClassId) (q q_ending q_meaning q_cost q_alikeTo q_kind q_want q_heardWord q_heardAnswer q_saidAhead : Nat) (m_words : Int32) (m_people : Int32) (m_said : Int32) (m_undos : Int32) (m_heard : Int32) (m_ending : Nat → Int32) (m_meaning : Nat → Int32) (m_cost : Nat → Int32) (m_alikeTo : Nat → Int32) (m_kind : Nat → Int32) (m_want : Nat → Int32) (m_heardWord : Nat → Int32) (m_heardAnswer : Nat → Int32) : va_W := [(q, .inr (9, [.ref q_ending, .ref q_meaning, .ref q_cost, .int m_words, .ref q_alikeTo, .ref q_kind, .ref q_want, .int m_people, .int m_said, .ref q_saidAhead, .int m_undos, .ref q_heardWord, .ref q_heardAnswer, .int m_heard])), (q_ending, .inl (cI, 10, .inl m_ending)), (q_meaning, .inl (cI, 10, .inl m_meaning)), (q_cost, .inl (cI, 10, .inl m_cost)), (q_alikeTo, .inl (cI, 8, .inl m_alikeTo)), (q_kind, .inl (cI, 5, .inl m_kind)), (q_want, .inl (cI, 5, .inl m_want)), (q_heardWord, .inl (cI, 6, .inl m_heardWord)), (q_heardAnswer, .inl (cI, 6, .inl m_heardAnswer))]
abbrev rX9_digestFrom : Room := { frames := 1, cells := 0, slots := 0, locals := 22 }
def fX9_digestFrom_b189_body (N : Nat)  (m_heard : Int32) (m_heardWord : Nat → Int32) (m_heardAnswer : Nat → Int32) (r189 : Int64 → Int32 → Option (Int64)) (x3 : Int64) (x5 : Int32) : Option (Int64) := (if m_heard ≤ x5 then some (x3) else gm_chk x5 6 (gm_let (((31 * x3) + (Int32.toInt64 (m_heardWord (Int32.toNatClampNeg x5)))) : Int64) (fun (v6 : Int64) => gm_chk x5 6 (gm_let (((31 * v6) + (Int32.toInt64 (m_heardAnswer (Int32.toNatClampNeg x5)))) : Int64) (fun (v8 : Int64) => (r189 v8 ((x5 + 1))))))))
def fX9_digestFrom_b189 (N : Nat)  (m_heard : Int32) (m_heardWord : Nat → Int32) (m_heardAnswer : Nat → Int32) (x3 : Int64) (x5 : Int32) : Option (Int64) := gm_fix (fX9_digestFrom_b189_body N  m_heard m_heardWord m_heardAnswer) (fun _ _ => none) N x3 x5
def fX9_digestFrom_b186 (N : Nat)  (m_heard : Int32) (m_heardWord : Nat → Int32) (m_heardAnswer : Nat → Int32) (x3 : Int64) : Option (Int64) := (fX9_digestFrom_b189 N  m_heard m_heardWord m_heardAnswer x3 0)
def fX9_digestFrom_b141_body (N : Nat)  (m_people : Int32) (m_heard : Int32) (m_kind : Nat → Int32) (m_want : Nat → Int32) (m_heardWord : Nat → Int32) (m_heardAnswer : Nat → Int32) (r141 : Int64 → Int32 → Option (Int64)) (x3 : Int64) (x5 : Int32) : Option (Int64) := (if m_people ≤ x5 then (fX9_digestFrom_b186 N  m_heard m_heardWord m_heardAnswer x3) else gm_chk x5 5 (gm_let (((31 * x3) + (Int32.toInt64 (m_kind (Int32.toNatClampNeg x5)))) : Int64) (fun (v10 : Int64) => gm_chk x5 5 (gm_let (((31 * v10) + (Int32.toInt64 (m_want (Int32.toNatClampNeg x5)))) : Int64) (fun (v12 : Int64) => (r141 v12 ((x5 + 1))))))))
def fX9_digestFrom_b141 (N : Nat)  (m_people : Int32) (m_heard : Int32) (m_kind : Nat → Int32) (m_want : Nat → Int32) (m_heardWord : Nat → Int32) (m_heardAnswer : Nat → Int32) (x3 : Int64) (x5 : Int32) : Option (Int64) := gm_fix (fX9_digestFrom_b141_body N  m_people m_heard m_kind m_want m_heardWord m_heardAnswer) (fun _ _ => none) N x3 x5
def fX9_digestFrom_b138 (N : Nat)  (m_people : Int32) (m_heard : Int32) (m_kind : Nat → Int32) (m_want : Nat → Int32) (m_heardWord : Nat → Int32) (m_heardAnswer : Nat → Int32) (x3 : Int64) : Option (Int64) := (fX9_digestFrom_b141 N  m_people m_heard m_kind m_want m_heardWord m_heardAnswer x3 0)
def fX9_digestFrom_b129 (N : Nat) (r85 : Int64 → Int32 → Option (Int64)) (m_people : Int32) (m_heard : Int32) (m_alikeTo : Nat → Int32) (m_kind : Nat → Int32) (m_want : Nat → Int32) (m_heardWord : Nat → Int32) (m_heardAnswer : Nat → Int32) (x5 : Int32) (k0 : Int64) (k1 : Int32) : Option (Int64) := gm_let ((k0 + (Int32.toInt64 k1)) : Int64) (fun (v19 : Int64) => (r85 v19 ((x5 + 1))))
def fX9_digestFrom_b85_body (N : Nat)  (m_people : Int32) (m_heard : Int32) (m_alikeTo : Nat → Int32) (m_kind : Nat → Int32) (m_want : Nat → Int32) (m_heardWord : Nat → Int32) (m_heardAnswer : Nat → Int32) (r85 : Int64 → Int32 → Option (Int64)) (x3 : Int64) (x5 : Int32) : Option (Int64) := (if 28 ≤ x5 then (fX9_digestFrom_b138 N  m_people m_heard m_kind m_want m_heardWord m_heardAnswer x3) else gm_chk x5 28 (gm_nz 10 (gm_chk x5 28 (gm_nz 10 (gm_bind (fX9_areAlike N m_alikeTo (((gm_pairs (Int32.toNatClampNeg x5)) / 10)) (((gm_pairs (Int32.toNatClampNeg x5)) - (gm_pairs (Int32.toNatClampNeg x5)) / 10 * 10))) (fun o17 => (if o17 = 0 then (fX9_digestFrom_b129 N r85 m_people m_heard m_alikeTo m_kind m_want m_heardWord m_heardAnswer x5 ((31 * x3)) 0) else (fX9_digestFrom_b129 N r85 m_people m_heard m_alikeTo m_kind m_want m_heardWord m_heardAnswer x5 ((31 * x3)) 1))))))))
def fX9_digestFrom_b85 (N : Nat)  (m_people : Int32) (m_heard : Int32) (m_alikeTo : Nat → Int32) (m_kind : Nat → Int32) (m_want : Nat → Int32) (m_heardWord : Nat → Int32) (m_heardAnswer : Nat → Int32) (x3 : Int64) (x5 : Int32) : Option (Int64) := gm_fix (fX9_digestFrom_b85_body N  m_people m_heard m_alikeTo m_kind m_want m_heardWord m_heardAnswer) (fun _ _ => none) N x3 x5
def fX9_digestFrom_b82 (N : Nat)  (m_people : Int32) (m_heard : Int32) (m_alikeTo : Nat → Int32) (m_kind : Nat → Int32) (m_want : Nat → Int32) (m_heardWord : Nat → Int32) (m_heardAnswer : Nat → Int32) (x3 : Int64) : Option (Int64) := (fX9_digestFrom_b85 N  m_people m_heard m_alikeTo m_kind m_want m_heardWord m_heardAnswer x3 0)
def fX9_digestFrom_b5_body (N : Nat)  (m_words : Int32) (m_people : Int32) (m_said : Int32) (m_heard : Int32) (m_ending : Nat → Int32) (m_meaning : Nat → Int32) (m_cost : Nat → Int32) (m_alikeTo : Nat → Int32) (m_kind : Nat → Int32) (m_want : Nat → Int32) (m_heardWord : Nat → Int32) (m_heardAnswer : Nat → Int32) (r5 : Int64 → Int32 → Option (Int64)) (x3 : Int64) (x5 : Int32) : Option (Int64) := (if m_words ≤ x5 then (fX9_digestFrom_b82 N  m_people m_heard m_alikeTo m_kind m_want m_heardWord m_heardAnswer x3) else gm_chk x5 10 (gm_let (((31 * x3) + (Int32.toInt64 (m_ending (Int32.toNatClampNeg x5)))) : Int64) (fun (v21 : Int64) => gm_chk x5 10 (gm_let (((31 * v21) + (Int32.toInt64 (m_meaning (Int32.toNatClampNeg x5)))) : Int64) (fun (v23 : Int64) => gm_chk x5 10 (gm_let (((31 * v23) + (Int32.toInt64 (m_cost (Int32.toNatClampNeg x5)))) : Int64) (fun (v25 : Int64) => gm_let (((31 * v25) + (Int32.toInt64 ((m_said >>> (x5 &&& 31)) &&& 1))) : Int64) (fun (v26 : Int64) => (r5 v26 ((x5 + 1)))))))))))
def fX9_digestFrom_b5 (N : Nat)  (m_words : Int32) (m_people : Int32) (m_said : Int32) (m_heard : Int32) (m_ending : Nat → Int32) (m_meaning : Nat → Int32) (m_cost : Nat → Int32) (m_alikeTo : Nat → Int32) (m_kind : Nat → Int32) (m_want : Nat → Int32) (m_heardWord : Nat → Int32) (m_heardAnswer : Nat → Int32) (x3 : Int64) (x5 : Int32) : Option (Int64) := gm_fix (fX9_digestFrom_b5_body N  m_words m_people m_said m_heard m_ending m_meaning m_cost m_alikeTo m_kind m_want m_heardWord m_heardAnswer) (fun _ _ => none) N x3 x5
def fX9_digestFrom (N : Nat) (m_words : Int32) (m_people : Int32) (m_said : Int32) (m_heard : Int32) (m_ending : Nat → Int32) (m_meaning : Nat → Int32) (m_cost : Nat → Int32) (m_alikeTo : Nat → Int32) (m_kind : Nat → Int32) (m_want : Nat → Int32) (m_heardWord : Nat → Int32) (m_heardAnswer : Nat → Int32) (x1 : Int64) : Option (Int64) := (fX9_digestFrom_b5 N  m_words m_people m_said m_heard m_ending m_meaning m_cost m_alikeTo m_kind m_want m_heardWord m_heardAnswer x1 0)
set_option maxRecDepth 20000 in
theorem inX9_digestFrom_X9 : ∀ w ∈ u_ws RX9 TX9 14, w ∈ wsX9_digestFrom := fun w h => by
  obtain ⟨k, hk, rfl⟩ := List.mem_map.mp h
  have hk2 := List.mem_range.mp hk
  exact List.mem_of_getElem? (i := 19 + k) (by rcases (show k = 0 ∨ k = 1 ∨ k = 2 ∨ k = 3 ∨ k = 4 ∨ k = 5 ∨ k = 6 ∨ k = 7 ∨ k = 8 ∨ k = 9 ∨ k = 10 ∨ k = 11 ∨ k = 12 ∨ k = 13 by omega) with rfl | rfl | rfl | rfl | rfl | rfl | rfl | rfl | rfl | rfl | rfl | rfl | rfl | rfl <;> rfl)
set_option maxRecDepth 100000 in
set_option maxHeartbeats 4000000 in
theorem tX9_digestFrom_b189 {p : Program} {l : Launch} {e : Env} {s : State} {m : MethodId} {args : Array Value} {below : List Frame} {meth : Method} {c : Code} {A : Nat → Prop} {dC : Nat → ClassId} {dI : Nat → Nat → Nat} {cI : ClassId} {q q_ending q_meaning q_cost q_alikeTo q_kind q_want q_heardWord q_heardAnswer q_saidAhead : Nat} {tP : Nat} {m_words : Int32} {m_people : Int32} {m_said : Int32} {m_undos : Int32} {m_heard : Int32} {m_ending : Nat → Int32} {m_meaning : Nat → Int32} {m_cost : Nat → Int32} {m_alikeTo : Nat → Int32} {m_kind : Nat → Int32} {m_want : Nat → Int32} {m_heardWord : Nat → Int32} {m_heardAnswer : Nat → Int32} (C0 : gm_C p s m args meth c (dC, dI) [(cI, .int)] A (gm_XP tP) RX9 cX9_digestFrom 6 (some .long) wsX9_digestFrom) {N : Nat} {out : Int64}   : ∀ (n : Nat), ∀ (x3 : Int64) (x5 : Int32) (H : Heap) (locs : List Loc) (ls : Array Slot), (gm_fix (fX9_digestFrom_b189_body N  m_heard m_heardWord m_heardAnswer) (fun _ _ => none) n) x3 x5 = some out → gm_H (dC, dI) A s (wX9_digestFrom cI q q_ending q_meaning q_cost q_alikeTo q_kind q_want q_heardWord q_heardAnswer q_saidAhead m_words m_people m_said m_undos m_heard m_ending m_meaning m_cost m_alikeTo m_kind m_want m_heardWord m_heardAnswer) H locs → lv_has ls 6 [(0, .ref q), (3, .long x3), (5, .int x5)] → W p l e rX9_digestFrom s m args below meth c H locs 0 0 (MQ below (gm_Q (dC, dI) [(cI, .int)] A (some (.long out)) (wX9_digestFrom cI q q_ending q_meaning q_cost q_alikeTo q_kind q_want q_heardWord q_heardAnswer q_saidAhead m_words m_people m_said m_undos m_heard m_ending m_meaning m_cost m_alikeTo m_kind m_want m_heardWord m_heardAnswer)) args s 0 0 A) (F0 m 189 ls []) := by
  obtain ⟨hx, hb, hml, hr, hown, hts, hA, hK, hX, hlocks⟩ := id C0
  intro n
  induction n with
  | zero =>
    intro x3 x5 H locs ls h hH hl
    cases h
  | succ n hr189 =>
    intro x3 x5 H locs ls h hH hl
    rw [gm_fix_s] at h
    unfold fX9_digestFrom_b189_body at h
    refine lv_iload hx hb dX9_digestFrom_189 (lv_at hl 2 rfl) ?_
    refine lv_aload_n hx hb dX9_digestFrom_191 rfl (lv_at hl 0 rfl) ?_
    refine gm_get (ci := 9) C0 hH inX9_digestFrom_X9 0 13 10 rfl rfl (by decide) rfl rfl dX9_digestFrom_192 ?_
    refine lv_icmp_ge (tgt := 234) hx hb dX9_digestFrom_195 (by decide) (fun hc4 => ?_) (fun hc4 => ?_)
    · replace h := gm_pos hc4 h
      refine lv_lload_n hx hb dX9_digestFrom_234 rfl (lv_at hl 1 rfl) ?_
      obtain rfl := Option.some.inj h
      exact gm_lret C0 hH dX9_digestFrom_235
    · replace h := gm_neg hc4 h
      refine lv_ldc2 (own := RX9) (v := 31) hx hb hown (gm_at C0 2 rfl) dX9_digestFrom_198 ?_
      refine lv_lload_n hx hb dX9_digestFrom_201 rfl (lv_at hl 1 rfl) ?_
      refine lv_lmul hx hb dX9_digestFrom_202 ?_
      refine lv_aload_n hx hb dX9_digestFrom_203 rfl (lv_at hl 0 rfl) ?_
      refine gm_get (ci := 9) C0 hH inX9_digestFrom_X9 0 11 11 rfl rfl (by decide) rfl rfl dX9_digestFrom_204 ?_
      refine lv_iload hx hb dX9_digestFrom_207 (lv_at hl 2 rfl) ?_
      obtain ⟨hi5, h⟩ := gm_chk_e h
      refine gm_iald C0 hH hi5 7 0 rfl rfl dX9_digestFrom_209 ?_
      refine lv_i2l hx hb dX9_digestFrom_210 rfl ?_
      refine lv_ladd hx hb dX9_digestFrom_211 ?_
      refine lv_topl (fun v6 ev6 => ?_)
      replace h := gm_let_e ev6 h
      refine lv_lstore_n (lv' := [(3, .long v6), (0, .ref q), (5, .int x5)]) hx hb dX9_digestFrom_212 rfl hl (by decide) rfl (fun ls hl => ?_)
      refine lv_ldc2 (own := RX9) (v := 31) hx hb hown (gm_at C0 2 rfl) dX9_digestFrom_213 ?_
      refine lv_lload_n hx hb dX9_digestFrom_216 rfl (lv_at hl 0 rfl) ?_
      refine lv_lmul hx hb dX9_digestFrom_217 ?_
      refine lv_aload_n hx hb dX9_digestFrom_218 rfl (lv_at hl 1 rfl) ?_
      refine gm_get (ci := 9) C0 hH inX9_digestFrom_X9 0 12 12 rfl rfl (by decide) rfl rfl dX9_digestFrom_219 ?_
      refine lv_iload hx hb dX9_digestFrom_222 (lv_at hl 2 rfl) ?_
      obtain ⟨hi7, h⟩ := gm_chk_e h
      refine gm_iald C0 hH hi7 8 0 rfl rfl dX9_digestFrom_224 ?_
      refine lv_i2l hx hb dX9_digestFrom_225 rfl ?_
      refine lv_ladd hx hb dX9_digestFrom_226 ?_
      refine lv_topl (fun v8 ev8 => ?_)
      replace h := gm_let_e ev8 h
      refine lv_lstore_n (lv' := [(3, .long v8), (0, .ref q), (5, .int x5)]) hx hb dX9_digestFrom_227 rfl hl (by decide) rfl (fun ls hl => ?_)
      refine lv_iinc (v := (x5 + 1)) (lv' := [(5, .int (x5 + 1)), (3, .long v8), (0, .ref q)]) hx hb dX9_digestFrom_228 hl (k := 2) rfl rfl (by decide) rfl (fun ls hl => ?_)
      refine lv_goto (tgt := 189) hx hb dX9_digestFrom_231 (by decide) ?_
      exact hr189 _ _ _ _ _ h hH (lv_sub hl [2, 1, 0] rfl)
set_option maxRecDepth 100000 in
set_option maxHeartbeats 4000000 in
theorem tX9_digestFrom_b186 {p : Program} {l : Launch} {e : Env} {s : State} {m : MethodId} {args : Array Value} {below : List Frame} {meth : Method} {c : Code} {A : Nat → Prop} {dC : Nat → ClassId} {dI : Nat → Nat → Nat} {cI : ClassId} {q q_ending q_meaning q_cost q_alikeTo q_kind q_want q_heardWord q_heardAnswer q_saidAhead : Nat} {tP : Nat} {m_words : Int32} {m_people : Int32} {m_said : Int32} {m_undos : Int32} {m_heard : Int32} {m_ending : Nat → Int32} {m_meaning : Nat → Int32} {m_cost : Nat → Int32} {m_alikeTo : Nat → Int32} {m_kind : Nat → Int32} {m_want : Nat → Int32} {m_heardWord : Nat → Int32} {m_heardAnswer : Nat → Int32} {x3 : Int64} (C0 : gm_C p s m args meth c (dC, dI) [(cI, .int)] A (gm_XP tP) RX9 cX9_digestFrom 6 (some .long) wsX9_digestFrom) {N : Nat} {out : Int64}    {H : Heap} {locs : List Loc} {ls : Array Slot} (h : fX9_digestFrom_b186 N  m_heard m_heardWord m_heardAnswer x3 = some out) (hH : gm_H (dC, dI) A s (wX9_digestFrom cI q q_ending q_meaning q_cost q_alikeTo q_kind q_want q_heardWord q_heardAnswer q_saidAhead m_words m_people m_said m_undos m_heard m_ending m_meaning m_cost m_alikeTo m_kind m_want m_heardWord m_heardAnswer) H locs) (hl : lv_has ls 6 [(0, .ref q), (3, .long x3)]) : W p l e rX9_digestFrom s m args below meth c H locs 0 0 (MQ below (gm_Q (dC, dI) [(cI, .int)] A (some (.long out)) (wX9_digestFrom cI q q_ending q_meaning q_cost q_alikeTo q_kind q_want q_heardWord q_heardAnswer q_saidAhead m_words m_people m_said m_undos m_heard m_ending m_meaning m_cost m_alikeTo m_kind m_want m_heardWord m_heardAnswer)) args s 0 0 A) (F0 m 186 ls []) := by
  obtain ⟨hx, hb, hml, hr, hown, hts, hA, hK, hX, hlocks⟩ := id C0
  unfold fX9_digestFrom_b186 at h
  refine lv_iconst (v := 0) hx hb dX9_digestFrom_186 (by decide) ?_
  refine lv_istore (lv' := [(5, .int 0), (0, .ref q), (3, .long x3)]) hx hb dX9_digestFrom_187 hl (by decide) rfl (fun ls hl => ?_)
  unfold fX9_digestFrom_b189 at h
  exact tX9_digestFrom_b189 C0  _ _ _ _ _ _ h hH (lv_sub hl [1, 2, 0] rfl)
set_option maxRecDepth 100000 in
set_option maxHeartbeats 4000000 in
theorem tX9_digestFrom_b141 {p : Program} {l : Launch} {e : Env} {s : State} {m : MethodId} {args : Array Value} {below : List Frame} {meth : Method} {c : Code} {A : Nat → Prop} {dC : Nat → ClassId} {dI : Nat → Nat → Nat} {cI : ClassId} {q q_ending q_meaning q_cost q_alikeTo q_kind q_want q_heardWord q_heardAnswer q_saidAhead : Nat} {tP : Nat} {m_words : Int32} {m_people : Int32} {m_said : Int32} {m_undos : Int32} {m_heard : Int32} {m_ending : Nat → Int32} {m_meaning : Nat → Int32} {m_cost : Nat → Int32} {m_alikeTo : Nat → Int32} {m_kind : Nat → Int32} {m_want : Nat → Int32} {m_heardWord : Nat → Int32} {m_heardAnswer : Nat → Int32} (C0 : gm_C p s m args meth c (dC, dI) [(cI, .int)] A (gm_XP tP) RX9 cX9_digestFrom 6 (some .long) wsX9_digestFrom) {N : Nat} {out : Int64}   : ∀ (n : Nat), ∀ (x3 : Int64) (x5 : Int32) (H : Heap) (locs : List Loc) (ls : Array Slot), (gm_fix (fX9_digestFrom_b141_body N  m_people m_heard m_kind m_want m_heardWord m_heardAnswer) (fun _ _ => none) n) x3 x5 = some out → gm_H (dC, dI) A s (wX9_digestFrom cI q q_ending q_meaning q_cost q_alikeTo q_kind q_want q_heardWord q_heardAnswer q_saidAhead m_words m_people m_said m_undos m_heard m_ending m_meaning m_cost m_alikeTo m_kind m_want m_heardWord m_heardAnswer) H locs → lv_has ls 6 [(0, .ref q), (3, .long x3), (5, .int x5)] → W p l e rX9_digestFrom s m args below meth c H locs 0 0 (MQ below (gm_Q (dC, dI) [(cI, .int)] A (some (.long out)) (wX9_digestFrom cI q q_ending q_meaning q_cost q_alikeTo q_kind q_want q_heardWord q_heardAnswer q_saidAhead m_words m_people m_said m_undos m_heard m_ending m_meaning m_cost m_alikeTo m_kind m_want m_heardWord m_heardAnswer)) args s 0 0 A) (F0 m 141 ls []) := by
  obtain ⟨hx, hb, hml, hr, hown, hts, hA, hK, hX, hlocks⟩ := id C0
  intro n
  induction n with
  | zero =>
    intro x3 x5 H locs ls h hH hl
    cases h
  | succ n hr141 =>
    intro x3 x5 H locs ls h hH hl
    rw [gm_fix_s] at h
    unfold fX9_digestFrom_b141_body at h
    refine lv_iload hx hb dX9_digestFrom_141 (lv_at hl 2 rfl) ?_
    refine lv_aload_n hx hb dX9_digestFrom_143 rfl (lv_at hl 0 rfl) ?_
    refine gm_get (ci := 9) C0 hH inX9_digestFrom_X9 0 7 7 rfl rfl (by decide) rfl rfl dX9_digestFrom_144 ?_
    refine lv_icmp_ge (tgt := 186) hx hb dX9_digestFrom_147 (by decide) (fun hc3 => ?_) (fun hc3 => ?_)
    · replace h := gm_pos hc3 h
      exact tX9_digestFrom_b186 C0  h hH (lv_sub hl [0, 1] rfl)
    · replace h := gm_neg hc3 h
      refine lv_ldc2 (own := RX9) (v := 31) hx hb hown (gm_at C0 2 rfl) dX9_digestFrom_150 ?_
      refine lv_lload_n hx hb dX9_digestFrom_153 rfl (lv_at hl 1 rfl) ?_
      refine lv_lmul hx hb dX9_digestFrom_154 ?_
      refine lv_aload_n hx hb dX9_digestFrom_155 rfl (lv_at hl 0 rfl) ?_
      refine gm_get (ci := 9) C0 hH inX9_digestFrom_X9 0 5 8 rfl rfl (by decide) rfl rfl dX9_digestFrom_156 ?_
      refine lv_iload hx hb dX9_digestFrom_159 (lv_at hl 2 rfl) ?_
      obtain ⟨hi9, h⟩ := gm_chk_e h
      refine gm_iald C0 hH hi9 5 0 rfl rfl dX9_digestFrom_161 ?_
      refine lv_i2l hx hb dX9_digestFrom_162 rfl ?_
      refine lv_ladd hx hb dX9_digestFrom_163 ?_
      refine lv_topl (fun v10 ev10 => ?_)
      replace h := gm_let_e ev10 h
      refine lv_lstore_n (lv' := [(3, .long v10), (0, .ref q), (5, .int x5)]) hx hb dX9_digestFrom_164 rfl hl (by decide) rfl (fun ls hl => ?_)
      refine lv_ldc2 (own := RX9) (v := 31) hx hb hown (gm_at C0 2 rfl) dX9_digestFrom_165 ?_
      refine lv_lload_n hx hb dX9_digestFrom_168 rfl (lv_at hl 0 rfl) ?_
      refine lv_lmul hx hb dX9_digestFrom_169 ?_
      refine lv_aload_n hx hb dX9_digestFrom_170 rfl (lv_at hl 1 rfl) ?_
      refine gm_get (ci := 9) C0 hH inX9_digestFrom_X9 0 6 9 rfl rfl (by decide) rfl rfl dX9_digestFrom_171 ?_
      refine lv_iload hx hb dX9_digestFrom_174 (lv_at hl 2 rfl) ?_
      obtain ⟨hi11, h⟩ := gm_chk_e h
      refine gm_iald C0 hH hi11 6 0 rfl rfl dX9_digestFrom_176 ?_
      refine lv_i2l hx hb dX9_digestFrom_177 rfl ?_
      refine lv_ladd hx hb dX9_digestFrom_178 ?_
      refine lv_topl (fun v12 ev12 => ?_)
      replace h := gm_let_e ev12 h
      refine lv_lstore_n (lv' := [(3, .long v12), (0, .ref q), (5, .int x5)]) hx hb dX9_digestFrom_179 rfl hl (by decide) rfl (fun ls hl => ?_)
      refine lv_iinc (v := (x5 + 1)) (lv' := [(5, .int (x5 + 1)), (3, .long v12), (0, .ref q)]) hx hb dX9_digestFrom_180 hl (k := 2) rfl rfl (by decide) rfl (fun ls hl => ?_)
      refine lv_goto (tgt := 141) hx hb dX9_digestFrom_183 (by decide) ?_
      exact hr141 _ _ _ _ _ h hH (lv_sub hl [2, 1, 0] rfl)
set_option maxRecDepth 100000 in
set_option maxHeartbeats 4000000 in
theorem tX9_digestFrom_b138 {p : Program} {l : Launch} {e : Env} {s : State} {m : MethodId} {args : Array Value} {below : List Frame} {meth : Method} {c : Code} {A : Nat → Prop} {dC : Nat → ClassId} {dI : Nat → Nat → Nat} {cI : ClassId} {q q_ending q_meaning q_cost q_alikeTo q_kind q_want q_heardWord q_heardAnswer q_saidAhead : Nat} {tP : Nat} {m_words : Int32} {m_people : Int32} {m_said : Int32} {m_undos : Int32} {m_heard : Int32} {m_ending : Nat → Int32} {m_meaning : Nat → Int32} {m_cost : Nat → Int32} {m_alikeTo : Nat → Int32} {m_kind : Nat → Int32} {m_want : Nat → Int32} {m_heardWord : Nat → Int32} {m_heardAnswer : Nat → Int32} {x3 : Int64} (C0 : gm_C p s m args meth c (dC, dI) [(cI, .int)] A (gm_XP tP) RX9 cX9_digestFrom 6 (some .long) wsX9_digestFrom) {N : Nat} {out : Int64}    {H : Heap} {locs : List Loc} {ls : Array Slot} (h : fX9_digestFrom_b138 N  m_people m_heard m_kind m_want m_heardWord m_heardAnswer x3 = some out) (hH : gm_H (dC, dI) A s (wX9_digestFrom cI q q_ending q_meaning q_cost q_alikeTo q_kind q_want q_heardWord q_heardAnswer q_saidAhead m_words m_people m_said m_undos m_heard m_ending m_meaning m_cost m_alikeTo m_kind m_want m_heardWord m_heardAnswer) H locs) (hl : lv_has ls 6 [(0, .ref q), (3, .long x3)]) : W p l e rX9_digestFrom s m args below meth c H locs 0 0 (MQ below (gm_Q (dC, dI) [(cI, .int)] A (some (.long out)) (wX9_digestFrom cI q q_ending q_meaning q_cost q_alikeTo q_kind q_want q_heardWord q_heardAnswer q_saidAhead m_words m_people m_said m_undos m_heard m_ending m_meaning m_cost m_alikeTo m_kind m_want m_heardWord m_heardAnswer)) args s 0 0 A) (F0 m 138 ls []) := by
  obtain ⟨hx, hb, hml, hr, hown, hts, hA, hK, hX, hlocks⟩ := id C0
  unfold fX9_digestFrom_b138 at h
  refine lv_iconst (v := 0) hx hb dX9_digestFrom_138 (by decide) ?_
  refine lv_istore (lv' := [(5, .int 0), (0, .ref q), (3, .long x3)]) hx hb dX9_digestFrom_139 hl (by decide) rfl (fun ls hl => ?_)
  unfold fX9_digestFrom_b141 at h
  exact tX9_digestFrom_b141 C0  _ _ _ _ _ _ h hH (lv_sub hl [1, 2, 0] rfl)
set_option maxRecDepth 100000 in
set_option maxHeartbeats 4000000 in
theorem tX9_digestFrom_b129 {p : Program} {l : Launch} {e : Env} {s : State} {m : MethodId} {args : Array Value} {below : List Frame} {meth : Method} {c : Code} {A : Nat → Prop} {dC : Nat → ClassId} {dI : Nat → Nat → Nat} {cI : ClassId} {q q_ending q_meaning q_cost q_alikeTo q_kind q_want q_heardWord q_heardAnswer q_saidAhead : Nat} {tP : Nat} {m_words : Int32} {m_people : Int32} {m_said : Int32} {m_undos : Int32} {m_heard : Int32} {m_ending : Nat → Int32} {m_meaning : Nat → Int32} {m_cost : Nat → Int32} {m_alikeTo : Nat → Int32} {m_kind : Nat → Int32} {m_want : Nat → Int32} {m_heardWord : Nat → Int32} {m_heardAnswer : Nat → Int32} {x5 : Int32} {k0 : Int64} {k1 : Int32} (C0 : gm_C p s m args meth c (dC, dI) [(cI, .int)] A (gm_XP tP) RX9 cX9_digestFrom 6 (some .long) wsX9_digestFrom) {N : Nat} {out : Int64} {r85 : Int64 → Int32 → Option (Int64)} (hr85 : ∀ (x3 : Int64) (x5 : Int32) (H : Heap) (locs : List Loc) (ls : Array Slot), r85 x3 x5 = some out → gm_H (dC, dI) A s (wX9_digestFrom cI q q_ending q_meaning q_cost q_alikeTo q_kind q_want q_heardWord q_heardAnswer q_saidAhead m_words m_people m_said m_undos m_heard m_ending m_meaning m_cost m_alikeTo m_kind m_want m_heardWord m_heardAnswer) H locs → lv_has ls 6 [(0, .ref q), (3, .long x3), (5, .int x5)] → W p l e rX9_digestFrom s m args below meth c H locs 0 0 (MQ below (gm_Q (dC, dI) [(cI, .int)] A (some (.long out)) (wX9_digestFrom cI q q_ending q_meaning q_cost q_alikeTo q_kind q_want q_heardWord q_heardAnswer q_saidAhead m_words m_people m_said m_undos m_heard m_ending m_meaning m_cost m_alikeTo m_kind m_want m_heardWord m_heardAnswer)) args s 0 0 A) (F0 m 85 ls []))   {H : Heap} {locs : List Loc} {ls : Array Slot} (h : fX9_digestFrom_b129 N r85 m_people m_heard m_alikeTo m_kind m_want m_heardWord m_heardAnswer x5 k0 k1 = some out) (hH : gm_H (dC, dI) A s (wX9_digestFrom cI q q_ending q_meaning q_cost q_alikeTo q_kind q_want q_heardWord q_heardAnswer q_saidAhead m_words m_people m_said m_undos m_heard m_ending m_meaning m_cost m_alikeTo m_kind m_want m_heardWord m_heardAnswer) H locs) (hl : lv_has ls 6 [(0, .ref q), (5, .int x5)]) : W p l e rX9_digestFrom s m args below meth c H locs 0 0 (MQ below (gm_Q (dC, dI) [(cI, .int)] A (some (.long out)) (wX9_digestFrom cI q q_ending q_meaning q_cost q_alikeTo q_kind q_want q_heardWord q_heardAnswer q_saidAhead m_words m_people m_said m_undos m_heard m_ending m_meaning m_cost m_alikeTo m_kind m_want m_heardWord m_heardAnswer)) args s 0 0 A) (F0 m 129 ls [.int k1, .long k0]) := by
  obtain ⟨hx, hb, hml, hr, hown, hts, hA, hK, hX, hlocks⟩ := id C0
  unfold fX9_digestFrom_b129 at h
  refine lv_i2l hx hb dX9_digestFrom_129 rfl ?_
  refine lv_ladd hx hb dX9_digestFrom_130 ?_
  refine lv_topl (fun v19 ev19 => ?_)
  replace h := gm_let_e ev19 h
  refine lv_lstore_n (lv' := [(3, .long v19), (0, .ref q), (5, .int x5)]) hx hb dX9_digestFrom_131 rfl hl (by decide) rfl (fun ls hl => ?_)
  refine lv_iinc (v := (x5 + 1)) (lv' := [(5, .int (x5 + 1)), (3, .long v19), (0, .ref q)]) hx hb dX9_digestFrom_132 hl (k := 2) rfl rfl (by decide) rfl (fun ls hl => ?_)
  refine lv_goto (tgt := 85) hx hb dX9_digestFrom_135 (by decide) ?_
  exact hr85 _ _ _ _ _ h hH (lv_sub hl [2, 1, 0] rfl)
set_option maxRecDepth 100000 in
set_option maxHeartbeats 4000000 in
theorem tX9_digestFrom_b85 {p : Program} {l : Launch} {e : Env} {s : State} {m : MethodId} {args : Array Value} {below : List Frame} {meth : Method} {c : Code} {A : Nat → Prop} {dC : Nat → ClassId} {dI : Nat → Nat → Nat} {cI : ClassId} {q q_ending q_meaning q_cost q_alikeTo q_kind q_want q_heardWord q_heardAnswer q_saidAhead : Nat} {tP : Nat} {m_words : Int32} {m_people : Int32} {m_said : Int32} {m_undos : Int32} {m_heard : Int32} {m_ending : Nat → Int32} {m_meaning : Nat → Int32} {m_cost : Nat → Int32} {m_alikeTo : Nat → Int32} {m_kind : Nat → Int32} {m_want : Nat → Int32} {m_heardWord : Nat → Int32} {m_heardAnswer : Nat → Int32} (C0 : gm_C p s m args meth c (dC, dI) [(cI, .int)] A (gm_XP tP) RX9 cX9_digestFrom 6 (some .long) wsX9_digestFrom) {N : Nat} {out : Int64}   : ∀ (n : Nat), ∀ (x3 : Int64) (x5 : Int32) (H : Heap) (locs : List Loc) (ls : Array Slot), (gm_fix (fX9_digestFrom_b85_body N  m_people m_heard m_alikeTo m_kind m_want m_heardWord m_heardAnswer) (fun _ _ => none) n) x3 x5 = some out → gm_H (dC, dI) A s (wX9_digestFrom cI q q_ending q_meaning q_cost q_alikeTo q_kind q_want q_heardWord q_heardAnswer q_saidAhead m_words m_people m_said m_undos m_heard m_ending m_meaning m_cost m_alikeTo m_kind m_want m_heardWord m_heardAnswer) H locs → lv_has ls 6 [(0, .ref q), (3, .long x3), (5, .int x5)] → W p l e rX9_digestFrom s m args below meth c H locs 0 0 (MQ below (gm_Q (dC, dI) [(cI, .int)] A (some (.long out)) (wX9_digestFrom cI q q_ending q_meaning q_cost q_alikeTo q_kind q_want q_heardWord q_heardAnswer q_saidAhead m_words m_people m_said m_undos m_heard m_ending m_meaning m_cost m_alikeTo m_kind m_want m_heardWord m_heardAnswer)) args s 0 0 A) (F0 m 85 ls []) := by
  obtain ⟨hx, hb, hml, hr, hown, hts, hA, hK, hX, hlocks⟩ := id C0
  intro n
  induction n with
  | zero =>
    intro x3 x5 H locs ls h hH hl
    cases h
  | succ n hr85 =>
    intro x3 x5 H locs ls h hH hl
    rw [gm_fix_s] at h
    unfold fX9_digestFrom_b85_body at h
    refine lv_iload hx hb dX9_digestFrom_85 (lv_at hl 2 rfl) ?_
    refine va_getsN hx hb hX.1 hH.2.2 hown (va_Nw.use rfl hX.2.2) (fun _ h => h) dX9_digestFrom_87 ?_
    refine va_tlen (v := 28) hx hb hX.2.1 hH.2.2 rfl dX9_digestFrom_90 ?_
    refine lv_icmp_ge (tgt := 138) hx hb dX9_digestFrom_91 (by decide) (fun hc2 => ?_) (fun hc2 => ?_)
    · replace h := gm_pos hc2 h
      exact tX9_digestFrom_b138 C0  h hH (lv_sub hl [0, 1] rfl)
    · replace h := gm_neg hc2 h
      refine lv_ldc2 (own := RX9) (v := 31) hx hb hown (gm_at C0 2 rfl) dX9_digestFrom_94 ?_
      refine lv_lload_n hx hb dX9_digestFrom_97 rfl (lv_at hl 1 rfl) ?_
      refine lv_lmul hx hb dX9_digestFrom_98 ?_
      refine lv_aload_n hx hb dX9_digestFrom_99 rfl (lv_at hl 0 rfl) ?_
      refine va_getsN hx hb hX.1 hH.2.2 hown (va_Nw.use rfl hX.2.2) (fun _ h => h) dX9_digestFrom_100 ?_
      refine lv_iload hx hb dX9_digestFrom_103 (lv_at hl 2 rfl) ?_
      obtain ⟨hi13, h⟩ := gm_chk_e h
      refine va_ti hx hb hX.2.1 hH.2.2 hi13 rfl dX9_digestFrom_105 ?_
      refine lv_bipush (v := 10) hx hb dX9_digestFrom_106 (by decide) ?_
      obtain ⟨hz14, h⟩ := gm_nz_e h
      refine lv_idiv hx hb dX9_digestFrom_108 hz14 ?_
      refine va_getsN hx hb hX.1 hH.2.2 hown (va_Nw.use rfl hX.2.2) (fun _ h => h) dX9_digestFrom_109 ?_
      refine lv_iload hx hb dX9_digestFrom_112 (lv_at hl 2 rfl) ?_
      obtain ⟨hi15, h⟩ := gm_chk_e h
      refine va_ti hx hb hX.2.1 hH.2.2 hi15 rfl dX9_digestFrom_114 ?_
      refine lv_bipush (v := 10) hx hb dX9_digestFrom_115 (by decide) ?_
      obtain ⟨hz16, h⟩ := gm_nz_e h
      refine lv_irem hx hb dX9_digestFrom_117 hz16 ?_
      obtain ⟨o17, ho17, h⟩ := gm_bind_e h
      refine gm_callV (As := [.int ((gm_pairs (Int32.toNatClampNeg x5)) / 10), .int ((gm_pairs (Int32.toNatClampNeg x5)) - (gm_pairs (Int32.toNatClampNeg x5)) / 10 * 10)]) (rest := [.long (31 * x3)]) (n := 2) (ci := 9) (q0 := 0) C0 hH (mX9_areAlike l dC dI cI q q_alikeTo q_ending q_meaning q_cost q_kind q_want q_saidAhead q_heardWord q_heardAnswer m_words m_people m_said m_undos m_heard m_alikeTo (((gm_pairs (Int32.toNatClampNeg x5)) / 10)) (((gm_pairs (Int32.toNatClampNeg x5)) - (gm_pairs (Int32.toNatClampNeg x5)) / 10 * 10))   ho17) gX9_digestFrom_X9_areAlike rfl (by decide +kernel) ⟨rfl, rfl, Nat.le_of_ble_eq_true rfl, Nat.le_of_ble_eq_true rfl⟩ gm_T_ok (fun _ => trivial) [0, 4] rfl rfl rfl [0] rfl rfl rfl rfl hl.1 rfl (Nat.le_of_ble_eq_true rfl) dX9_digestFrom_118 ⟨Nat.zero_le _, Nat.zero_le _⟩ (fun H locs hH => ?_)
      have hH : gm_H (dC, dI) A s (wX9_digestFrom cI q q_ending q_meaning q_cost q_alikeTo q_kind q_want q_heardWord q_heardAnswer q_saidAhead m_words m_people m_said m_undos m_heard m_ending m_meaning m_cost m_alikeTo m_kind m_want m_heardWord m_heardAnswer) H locs := hH
      refine lv_if_eq (tgt := 128) hx hb dX9_digestFrom_121 (by decide) (fun hc18 => ?_) (fun hc18 => ?_)
      · replace h := gm_pos hc18 h
        refine lv_iconst (v := 0) hx hb dX9_digestFrom_128 (by decide) ?_
        exact tX9_digestFrom_b129 C0 hr85 h hH (lv_sub hl [0, 2] rfl)
      · replace h := gm_neg hc18 h
        refine lv_iconst (v := 1) hx hb dX9_digestFrom_124 (by decide) ?_
        refine lv_goto (tgt := 129) hx hb dX9_digestFrom_125 (by decide) ?_
        exact tX9_digestFrom_b129 C0 hr85 h hH (lv_sub hl [0, 2] rfl)
set_option maxRecDepth 100000 in
set_option maxHeartbeats 4000000 in
theorem tX9_digestFrom_b82 {p : Program} {l : Launch} {e : Env} {s : State} {m : MethodId} {args : Array Value} {below : List Frame} {meth : Method} {c : Code} {A : Nat → Prop} {dC : Nat → ClassId} {dI : Nat → Nat → Nat} {cI : ClassId} {q q_ending q_meaning q_cost q_alikeTo q_kind q_want q_heardWord q_heardAnswer q_saidAhead : Nat} {tP : Nat} {m_words : Int32} {m_people : Int32} {m_said : Int32} {m_undos : Int32} {m_heard : Int32} {m_ending : Nat → Int32} {m_meaning : Nat → Int32} {m_cost : Nat → Int32} {m_alikeTo : Nat → Int32} {m_kind : Nat → Int32} {m_want : Nat → Int32} {m_heardWord : Nat → Int32} {m_heardAnswer : Nat → Int32} {x3 : Int64} (C0 : gm_C p s m args meth c (dC, dI) [(cI, .int)] A (gm_XP tP) RX9 cX9_digestFrom 6 (some .long) wsX9_digestFrom) {N : Nat} {out : Int64}    {H : Heap} {locs : List Loc} {ls : Array Slot} (h : fX9_digestFrom_b82 N  m_people m_heard m_alikeTo m_kind m_want m_heardWord m_heardAnswer x3 = some out) (hH : gm_H (dC, dI) A s (wX9_digestFrom cI q q_ending q_meaning q_cost q_alikeTo q_kind q_want q_heardWord q_heardAnswer q_saidAhead m_words m_people m_said m_undos m_heard m_ending m_meaning m_cost m_alikeTo m_kind m_want m_heardWord m_heardAnswer) H locs) (hl : lv_has ls 6 [(0, .ref q), (3, .long x3)]) : W p l e rX9_digestFrom s m args below meth c H locs 0 0 (MQ below (gm_Q (dC, dI) [(cI, .int)] A (some (.long out)) (wX9_digestFrom cI q q_ending q_meaning q_cost q_alikeTo q_kind q_want q_heardWord q_heardAnswer q_saidAhead m_words m_people m_said m_undos m_heard m_ending m_meaning m_cost m_alikeTo m_kind m_want m_heardWord m_heardAnswer)) args s 0 0 A) (F0 m 82 ls []) := by
  obtain ⟨hx, hb, hml, hr, hown, hts, hA, hK, hX, hlocks⟩ := id C0
  unfold fX9_digestFrom_b82 at h
  refine lv_iconst (v := 0) hx hb dX9_digestFrom_82 (by decide) ?_
  refine lv_istore (lv' := [(5, .int 0), (0, .ref q), (3, .long x3)]) hx hb dX9_digestFrom_83 hl (by decide) rfl (fun ls hl => ?_)
  unfold fX9_digestFrom_b85 at h
  exact tX9_digestFrom_b85 C0  _ _ _ _ _ _ h hH (lv_sub hl [1, 2, 0] rfl)
set_option maxRecDepth 100000 in
set_option maxHeartbeats 4000000 in
theorem tX9_digestFrom_b5 {p : Program} {l : Launch} {e : Env} {s : State} {m : MethodId} {args : Array Value} {below : List Frame} {meth : Method} {c : Code} {A : Nat → Prop} {dC : Nat → ClassId} {dI : Nat → Nat → Nat} {cI : ClassId} {q q_ending q_meaning q_cost q_alikeTo q_kind q_want q_heardWord q_heardAnswer q_saidAhead : Nat} {tP : Nat} {m_words : Int32} {m_people : Int32} {m_said : Int32} {m_undos : Int32} {m_heard : Int32} {m_ending : Nat → Int32} {m_meaning : Nat → Int32} {m_cost : Nat → Int32} {m_alikeTo : Nat → Int32} {m_kind : Nat → Int32} {m_want : Nat → Int32} {m_heardWord : Nat → Int32} {m_heardAnswer : Nat → Int32} (C0 : gm_C p s m args meth c (dC, dI) [(cI, .int)] A (gm_XP tP) RX9 cX9_digestFrom 6 (some .long) wsX9_digestFrom) {N : Nat} {out : Int64}   : ∀ (n : Nat), ∀ (x3 : Int64) (x5 : Int32) (H : Heap) (locs : List Loc) (ls : Array Slot), (gm_fix (fX9_digestFrom_b5_body N  m_words m_people m_said m_heard m_ending m_meaning m_cost m_alikeTo m_kind m_want m_heardWord m_heardAnswer) (fun _ _ => none) n) x3 x5 = some out → gm_H (dC, dI) A s (wX9_digestFrom cI q q_ending q_meaning q_cost q_alikeTo q_kind q_want q_heardWord q_heardAnswer q_saidAhead m_words m_people m_said m_undos m_heard m_ending m_meaning m_cost m_alikeTo m_kind m_want m_heardWord m_heardAnswer) H locs → lv_has ls 6 [(0, .ref q), (3, .long x3), (5, .int x5)] → W p l e rX9_digestFrom s m args below meth c H locs 0 0 (MQ below (gm_Q (dC, dI) [(cI, .int)] A (some (.long out)) (wX9_digestFrom cI q q_ending q_meaning q_cost q_alikeTo q_kind q_want q_heardWord q_heardAnswer q_saidAhead m_words m_people m_said m_undos m_heard m_ending m_meaning m_cost m_alikeTo m_kind m_want m_heardWord m_heardAnswer)) args s 0 0 A) (F0 m 5 ls []) := by
  obtain ⟨hx, hb, hml, hr, hown, hts, hA, hK, hX, hlocks⟩ := id C0
  intro n
  induction n with
  | zero =>
    intro x3 x5 H locs ls h hH hl
    cases h
  | succ n hr5 =>
    intro x3 x5 H locs ls h hH hl
    rw [gm_fix_s] at h
    unfold fX9_digestFrom_b5_body at h
    refine lv_iload hx hb dX9_digestFrom_5 (lv_at hl 2 rfl) ?_
    refine lv_aload_n hx hb dX9_digestFrom_7 rfl (lv_at hl 0 rfl) ?_
    refine gm_get (ci := 9) C0 hH inX9_digestFrom_X9 0 3 1 rfl rfl (by decide) rfl rfl dX9_digestFrom_8 ?_
    refine lv_icmp_ge (tgt := 82) hx hb dX9_digestFrom_11 (by decide) (fun hc1 => ?_) (fun hc1 => ?_)
    · replace h := gm_pos hc1 h
      exact tX9_digestFrom_b82 C0  h hH (lv_sub hl [0, 1] rfl)
    · replace h := gm_neg hc1 h
      refine lv_ldc2 (own := RX9) (v := 31) hx hb hown (gm_at C0 2 rfl) dX9_digestFrom_14 ?_
      refine lv_lload_n hx hb dX9_digestFrom_17 rfl (lv_at hl 1 rfl) ?_
      refine lv_lmul hx hb dX9_digestFrom_18 ?_
      refine lv_aload_n hx hb dX9_digestFrom_19 rfl (lv_at hl 0 rfl) ?_
      refine gm_get (ci := 9) C0 hH inX9_digestFrom_X9 0 0 3 rfl rfl (by decide) rfl rfl dX9_digestFrom_20 ?_
      refine lv_iload hx hb dX9_digestFrom_23 (lv_at hl 2 rfl) ?_
      obtain ⟨hi20, h⟩ := gm_chk_e h
      refine gm_iald C0 hH hi20 1 0 rfl rfl dX9_digestFrom_25 ?_
      refine lv_i2l hx hb dX9_digestFrom_26 rfl ?_
      refine lv_ladd hx hb dX9_digestFrom_27 ?_
      refine lv_topl (fun v21 ev21 => ?_)
      replace h := gm_let_e ev21 h
      refine lv_lstore_n (lv' := [(3, .long v21), (0, .ref q), (5, .int x5)]) hx hb dX9_digestFrom_28 rfl hl (by decide) rfl (fun ls hl => ?_)
      refine lv_ldc2 (own := RX9) (v := 31) hx hb hown (gm_at C0 2 rfl) dX9_digestFrom_29 ?_
      refine lv_lload_n hx hb dX9_digestFrom_32 rfl (lv_at hl 0 rfl) ?_
      refine lv_lmul hx hb dX9_digestFrom_33 ?_
      refine lv_aload_n hx hb dX9_digestFrom_34 rfl (lv_at hl 1 rfl) ?_
      refine gm_get (ci := 9) C0 hH inX9_digestFrom_X9 0 1 4 rfl rfl (by decide) rfl rfl dX9_digestFrom_35 ?_
      refine lv_iload hx hb dX9_digestFrom_38 (lv_at hl 2 rfl) ?_
      obtain ⟨hi22, h⟩ := gm_chk_e h
      refine gm_iald C0 hH hi22 2 0 rfl rfl dX9_digestFrom_40 ?_
      refine lv_i2l hx hb dX9_digestFrom_41 rfl ?_
      refine lv_ladd hx hb dX9_digestFrom_42 ?_
      refine lv_topl (fun v23 ev23 => ?_)
      replace h := gm_let_e ev23 h
      refine lv_lstore_n (lv' := [(3, .long v23), (0, .ref q), (5, .int x5)]) hx hb dX9_digestFrom_43 rfl hl (by decide) rfl (fun ls hl => ?_)
      refine lv_ldc2 (own := RX9) (v := 31) hx hb hown (gm_at C0 2 rfl) dX9_digestFrom_44 ?_
      refine lv_lload_n hx hb dX9_digestFrom_47 rfl (lv_at hl 0 rfl) ?_
      refine lv_lmul hx hb dX9_digestFrom_48 ?_
      refine lv_aload_n hx hb dX9_digestFrom_49 rfl (lv_at hl 1 rfl) ?_
      refine gm_get (ci := 9) C0 hH inX9_digestFrom_X9 0 2 5 rfl rfl (by decide) rfl rfl dX9_digestFrom_50 ?_
      refine lv_iload hx hb dX9_digestFrom_53 (lv_at hl 2 rfl) ?_
      obtain ⟨hi24, h⟩ := gm_chk_e h
      refine gm_iald C0 hH hi24 3 0 rfl rfl dX9_digestFrom_55 ?_
      refine lv_i2l hx hb dX9_digestFrom_56 rfl ?_
      refine lv_ladd hx hb dX9_digestFrom_57 ?_
      refine lv_topl (fun v25 ev25 => ?_)
      replace h := gm_let_e ev25 h
      refine lv_lstore_n (lv' := [(3, .long v25), (0, .ref q), (5, .int x5)]) hx hb dX9_digestFrom_58 rfl hl (by decide) rfl (fun ls hl => ?_)
      refine lv_ldc2 (own := RX9) (v := 31) hx hb hown (gm_at C0 2 rfl) dX9_digestFrom_59 ?_
      refine lv_lload_n hx hb dX9_digestFrom_62 rfl (lv_at hl 0 rfl) ?_
      refine lv_lmul hx hb dX9_digestFrom_63 ?_
      refine lv_aload_n hx hb dX9_digestFrom_64 rfl (lv_at hl 1 rfl) ?_
      refine gm_get (ci := 9) C0 hH inX9_digestFrom_X9 0 8 6 rfl rfl (by decide) rfl rfl dX9_digestFrom_65 ?_
      refine lv_iload hx hb dX9_digestFrom_68 (lv_at hl 2 rfl) ?_
      refine lv_ishr hx hb dX9_digestFrom_70 ?_
      refine lv_iconst (v := 1) hx hb dX9_digestFrom_71 (by decide) ?_
      refine lv_iand hx hb dX9_digestFrom_72 ?_
      refine lv_i2l hx hb dX9_digestFrom_73 rfl ?_
      refine lv_ladd hx hb dX9_digestFrom_74 ?_
      refine lv_topl (fun v26 ev26 => ?_)
      replace h := gm_let_e ev26 h
      refine lv_lstore_n (lv' := [(3, .long v26), (0, .ref q), (5, .int x5)]) hx hb dX9_digestFrom_75 rfl hl (by decide) rfl (fun ls hl => ?_)
      refine lv_iinc (v := (x5 + 1)) (lv' := [(5, .int (x5 + 1)), (3, .long v26), (0, .ref q)]) hx hb dX9_digestFrom_76 hl (k := 2) rfl rfl (by decide) rfl (fun ls hl => ?_)
      refine lv_goto (tgt := 5) hx hb dX9_digestFrom_79 (by decide) ?_
      exact hr5 _ _ _ _ _ h hH (lv_sub hl [2, 1, 0] rfl)
set_option maxRecDepth 100000 in
set_option maxHeartbeats 4000000 in
theorem mX9_digestFrom (l : Launch) (dC : Nat → ClassId) (dI : Nat → Nat → Nat) (cI : ClassId) (q q_ending q_meaning q_cost q_alikeTo q_kind q_want q_heardWord q_heardAnswer q_saidAhead : Nat) (m_words : Int32) (m_people : Int32) (m_said : Int32) (m_undos : Int32) (m_heard : Int32) (m_ending : Nat → Int32) (m_meaning : Nat → Int32) (m_cost : Nat → Int32) (m_alikeTo : Nat → Int32) (m_kind : Nat → Int32) (m_want : Nat → Int32) (m_heardWord : Nat → Int32) (m_heardAnswer : Nat → Int32) (x1 : Int64) (tP : Nat)  {N : Nat} {out : Int64} (h : fX9_digestFrom N m_words m_people m_said m_heard m_ending m_meaning m_cost m_alikeTo m_kind m_want m_heardWord m_heardAnswer x1 = some out) : gm_Met l yX9_digestFrom wsX9_digestFrom rX9_digestFrom (dC, dI) [(cI, .int)] (gm_XP tP) [.ref q, .long x1] (wX9_digestFrom cI q q_ending q_meaning q_cost q_alikeTo q_kind q_want q_heardWord q_heardAnswer q_saidAhead m_words m_people m_said m_undos m_heard m_ending m_meaning m_cost m_alikeTo m_kind m_want m_heardWord m_heardAnswer) (some (.long out)) (wX9_digestFrom cI q q_ending q_meaning q_cost q_alikeTo q_kind q_want q_heardWord q_heardAnswer q_saidAhead m_words m_people m_said m_undos m_heard m_ending m_meaning m_cost m_alikeTo m_kind m_want m_heardWord m_heardAnswer) := by
  refine gm_ofW (cc := cX9_digestFrom) (maxL := 6) (ret := (some .long)) (by decide +kernel) rfl (Nat.le_of_ble_eq_true rfl) ?_
  intro p e s m below meth c A C0 hH ls hl
  generalize ([.ref q, .long x1] : List Value).toArray = args at C0 ⊢
  have hl : lv_has ls 6 [(0, .ref q), (1, .long x1)] := hl
  generalize s.heap = H at hH ⊢
  generalize ([] : List Loc) = locs at hH ⊢
  obtain ⟨hx, hb, hml, hr, hown, hts, hA, hK, hX, hlocks⟩ := id C0
  unfold fX9_digestFrom at h
  refine lv_lload_n hx hb dX9_digestFrom_0 rfl (lv_at hl 1 rfl) ?_
  refine lv_lstore_n (lv' := [(3, .long x1), (0, .ref q), (1, .long x1)]) hx hb dX9_digestFrom_1 rfl hl (by decide) rfl (fun ls hl => ?_)
  refine lv_iconst (v := 0) hx hb dX9_digestFrom_2 (by decide) ?_
  refine lv_istore (lv' := [(5, .int 0), (3, .long x1), (0, .ref q), (1, .long x1)]) hx hb dX9_digestFrom_3 hl (by decide) rfl (fun ls hl => ?_)
  unfold fX9_digestFrom_b5 at h
  exact tX9_digestFrom_b5 C0  _ _ _ _ _ _ h hH (lv_sub hl [2, 1, 0] rfl)
