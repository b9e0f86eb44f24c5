/-! X10_fits -/
abbrev rX10_fits : Room := { frames := 0, cells := 0, slots := 0, locals := 0 }
def fX10_fits (N : Nat)  (x0 : Int32) (x1 : Int32) : Option (Int32) := (if x0 < 0 then some (0) else (if x1 ≤ x0 then some (0) else some (1)))
set_option maxRecDepth 100000 in
set_option maxHeartbeats 4000000 in
theorem mX10_fits (l : Launch) (dC : Nat → ClassId) (dI : Nat → Nat → Nat)  (x0 : Int32) (x1 : Int32) {N : Nat} {out : Int32} (h : fX10_fits N x0 x1 = some out) : gm_Met l yX10_fits wsX10_fits rX10_fits (dC, dI) [] gm_T [.int x0, .int x1] ([] : va_W) (some (.int out)) ([] : va_W) := by
  refine gm_ofW (cc := cX10_fits) (maxL := 2) (ret := (some .boolean)) (by decide +kernel) rfl (Nat.le_of_ble_eq_true rfl) ?_
  intro p e s m below meth c A C0 hH ls hl
  generalize ([.int x0, .int x1] : List Value).toArray = args at C0 ⊢
  have hl : lv_has ls 2 [(0, .int x0), (1, .int x1)] := hl
  generalize s.heap = H at hH ⊢
  generalize ([] : List Loc) = locs at hH ⊢
  obtain ⟨hx, hb, hml, hr, hown, hts, hA, hK, hX, hlocks⟩ := id C0
  unfold fX10_fits at h
  refine lv_iload_n hx hb dX10_fits_0 rfl (lv_at hl 0 rfl) ?_
  refine lv_if_lt (tgt := 13) hx hb dX10_fits_1 (by decide) (fun hc1 => ?_) (fun hc1 => ?_)
  · replace h := gm_pos hc1 h
    refine lv_iconst (v := 0) hx hb dX10_fits_13 (by decide) ?_
    cases h
    exact gm_zret C0 hH (by decide) dX10_fits_14
  · replace h := gm_neg hc1 h
    refine lv_iload_n hx hb dX10_fits_4 rfl (lv_at hl 0 rfl) ?_
    refine lv_iload_n hx hb dX10_fits_5 rfl (lv_at hl 1 rfl) ?_
    refine lv_icmp_ge (tgt := 13) hx hb dX10_fits_6 (by decide) (fun hc2 => ?_) (fun hc2 => ?_)
    · replace h := gm_pos hc2 h
      refine lv_iconst (v := 0) hx hb dX10_fits_13 (by decide) ?_
      cases h
      exact gm_zret C0 hH (by decide) dX10_fits_14
    · replace h := gm_neg hc2 h
      refine lv_iconst (v := 1) hx hb dX10_fits_9 (by decide) ?_
      refine lv_goto (tgt := 14) hx hb dX10_fits_10 (by decide) ?_
      cases h
      exact gm_zret C0 hH (by decide) dX10_fits_14

/-! X9_wordsEnding -/
abbrev wX9_wordsEnding (cI : ClassId) (q q_ending q_meaning q_cost q_alikeTo q_kind q_want q_saidAhead q_heardWord q_heardAnswer : Nat) (m_words : Int32) (m_people : Int32) (m_said : Int32) (m_undos : Int32) (m_heard : Int32) (m_ending : Nat → Int32) : va_W := [(q, .inr (9, [.ref q_ending, .ref q_meaning, .ref q_cost, .int m_words, .ref q_alikeTo, .ref q_kind, .ref q_want, .int m_people, .int m_said, .ref q_saidAhead, .int m_undos, .ref q_heardWord, .ref q_heardAnswer, .int m_heard])), (q_ending, .inl (cI, 10, .inl m_ending))]
abbrev rX9_wordsEnding : Room := { frames := 0, cells := 0, slots := 0, locals := 0 }
def fX9_wordsEnding_b4_body (N : Nat)  (m_words : Int32) (m_ending : Nat → Int32) (x1 : Int32) (r4 : Int32 → Int32 → Option (Int32)) (x2 : Int32) (x3 : Int32) : Option (Int32) := (if m_words ≤ x3 then some (x2) else gm_chk x3 10 (gm_let ((x2 ||| (((x1 >>> ((m_ending (Int32.toNatClampNeg x3)) &&& 31)) &&& 1) <<< (x3 &&& 31))) : Int32) (fun (v3 : Int32) => (r4 v3 ((x3 + 1))))))
def fX9_wordsEnding_b4 (N : Nat)  (m_words : Int32) (m_ending : Nat → Int32) (x1 : Int32) (x2 : Int32) (x3 : Int32) : Option (Int32) := gm_fix (fX9_wordsEnding_b4_body N  m_words m_ending x1) (fun _ _ => none) N x2 x3
def fX9_wordsEnding (N : Nat) (m_words : Int32) (m_ending : Nat → Int32) (x1 : Int32) : Option (Int32) := (fX9_wordsEnding_b4 N  m_words m_ending x1 0 0)
set_option maxRecDepth 20000 in
theorem inX9_wordsEnding_X9 : ∀ w ∈ u_ws RX9 TX9 14, w ∈ wsX9_wordsEnding := fun w h => by
  obtain ⟨k, hk, rfl⟩ := List.mem_map.mp h
  have hk2 := List.mem_range.mp hk
  exact List.mem_of_getElem? (i := 3 + k) (by rcases (show k = 0 ∨ k = 1 ∨ k = 2 ∨ k = 3 ∨ k = 4 ∨ k = 5 ∨ k = 6 ∨ k = 7 ∨ k = 8 ∨ k = 9 ∨ k = 10 ∨ k = 11 ∨ k = 12 ∨ k = 13 by omega) with rfl | rfl | rfl | rfl | rfl | rfl | rfl | rfl | rfl | rfl | rfl | rfl | rfl | rfl <;> rfl)
set_option maxRecDepth 100000 in
set_option maxHeartbeats 4000000 in
theorem tX9_wordsEnding_b4 {p : Program} {l : Launch} {e : Env} {s : State} {m : MethodId} {args : Array Value} {below : List Frame} {meth : Method} {c : Code} {A : Nat → Prop} {dC : Nat → ClassId} {dI : Nat → Nat → Nat} {cI : ClassId} {q q_ending q_meaning q_cost q_alikeTo q_kind q_want q_saidAhead q_heardWord q_heardAnswer : Nat} {m_words : Int32} {m_people : Int32} {m_said : Int32} {m_undos : Int32} {m_heard : Int32} {m_ending : Nat → Int32} {x1 : Int32} (C0 : gm_C p s m args meth c (dC, dI) [(cI, .int)] A gm_T RX9 cX9_wordsEnding 4 (some .int) wsX9_wordsEnding) {N : Nat} {out : Int32}  : ∀ (n : Nat), ∀ (x2 : Int32) (x3 : Int32) (H : Heap) (locs : List Loc) (ls : Array Slot), (gm_fix (fX9_wordsEnding_b4_body N  m_words m_ending x1) (fun _ _ => none) n) x2 x3 = some out → gm_H (dC, dI) A s (wX9_wordsEnding cI q q_ending q_meaning q_cost q_alikeTo q_kind q_want q_saidAhead q_heardWord q_heardAnswer m_words m_people m_said m_undos m_heard m_ending) H locs → lv_has ls 4 [(0, .ref q), (1, .int x1), (2, .int x2), (3, .int x3)] → W p l e rX9_wordsEnding s m args below meth c H locs 0 0 (MQ below (gm_Q (dC, dI) [(cI, .int)] A (some (.int out)) (wX9_wordsEnding cI q q_ending q_meaning q_cost q_alikeTo q_kind q_want q_saidAhead q_heardWord q_heardAnswer m_words m_people m_said m_undos m_heard m_ending)) args s 0 0 A) (F0 m 4 ls []) := by
  obtain ⟨hx, hb, hml, hr, hown, hts, hA, hK, hX, hlocks⟩ := id C0
  intro n
  induction n with
  | zero =>
    intro x2 x3 H locs ls h hH hl
    cases h
  | succ n hr4 =>
    intro x2 x3 H locs ls h hH hl
    rw [gm_fix_s] at h
    unfold fX9_wordsEnding_b4_body at h
    refine lv_iload_n hx hb dX9_wordsEnding_4 rfl (lv_at hl 3 rfl) ?_
    refine lv_aload_n hx hb dX9_wordsEnding_5 rfl (lv_at hl 0 rfl) ?_
    refine gm_get (ci := 9) C0 hH inX9_wordsEnding_X9 0 3 1 rfl rfl (by decide) rfl rfl dX9_wordsEnding_6 ?_
    refine lv_icmp_ge (tgt := 33) hx hb dX9_wordsEnding_9 (by decide) (fun hc1 => ?_) (fun hc1 => ?_)
    · replace h := gm_pos hc1 h
      refine lv_iload_n hx hb dX9_wordsEnding_33 rfl (lv_at hl 2 rfl) ?_
      cases h
      exact gm_iret C0 hH dX9_wordsEnding_34
    · replace h := gm_neg hc1 h
      refine lv_iload_n hx hb dX9_wordsEnding_12 rfl (lv_at hl 2 rfl) ?_
      refine lv_iload_n hx hb dX9_wordsEnding_13 rfl (lv_at hl 1 rfl) ?_
      refine lv_aload_n hx hb dX9_wordsEnding_14 rfl (lv_at hl 0 rfl) ?_
      refine gm_get (ci := 9) C0 hH inX9_wordsEnding_X9 0 0 2 rfl rfl (by decide) rfl rfl dX9_wordsEnding_15 ?_
      refine lv_iload_n hx hb dX9_wordsEnding_18 rfl (lv_at hl 3 rfl) ?_
      obtain ⟨hi2, h⟩ := gm_chk_e h
      refine gm_iald C0 hH hi2 1 0 rfl rfl dX9_wordsEnding_19 ?_
      refine lv_ishr hx hb dX9_wordsEnding_20 ?_
      refine lv_iconst (v := 1) hx hb dX9_wordsEnding_21 (by decide) ?_
      refine lv_iand hx hb dX9_wordsEnding_22 ?_
      refine lv_iload_n hx hb dX9_wordsEnding_23 rfl (lv_at hl 3 rfl) ?_
      refine lv_ishl hx hb dX9_wordsEnding_24 ?_
      refine lv_ior hx hb dX9_wordsEnding_25 ?_
      refine lv_topi (fun v3 ev3 => ?_)
      replace h := gm_let_e ev3 h
      refine lv_istore_n (lv' := [(2, .int v3), (0, .ref q), (1, .int x1), (3, .int x3)]) hx hb dX9_wordsEnding_26 rfl hl (by decide) rfl (fun ls hl => ?_)
      refine lv_iinc (v := (x3 + 1)) (lv' := [(3, .int (x3 + 1)), (2, .int v3), (0, .ref q), (1, .int x1)]) hx hb dX9_wordsEnding_27 hl (k := 3) rfl rfl (by decide) rfl (fun ls hl => ?_)
      refine lv_goto (tgt := 4) hx hb dX9_wordsEnding_30 (by decide) ?_
      exact hr4 _ _ _ _ _ h hH (lv_sub hl [2, 3, 1, 0] rfl)
set_option maxRecDepth 100000 in
set_option maxHeartbeats 4000000 in
theorem mX9_wordsEnding (l : Launch) (dC : Nat → ClassId) (dI : Nat → Nat → Nat) (cI : ClassId) (q q_ending q_meaning q_cost q_alikeTo q_kind q_want q_saidAhead q_heardWord q_heardAnswer : Nat) (m_words : Int32) (m_people : Int32) (m_said : Int32) (m_undos : Int32) (m_heard : Int32) (m_ending : Nat → Int32) (x1 : Int32) {N : Nat} {out : Int32} (h : fX9_wordsEnding N m_words m_ending x1 = some out) : gm_Met l yX9_wordsEnding wsX9_wordsEnding rX9_wordsEnding (dC, dI) [(cI, .int)] gm_T [.ref q, .int x1] (wX9_wordsEnding cI q q_ending q_meaning q_cost q_alikeTo q_kind q_want q_saidAhead q_heardWord q_heardAnswer m_words m_people m_said m_undos m_heard m_ending) (some (.int out)) (wX9_wordsEnding cI q q_ending q_meaning q_cost q_alikeTo q_kind q_want q_saidAhead q_heardWord q_heardAnswer m_words m_people m_said m_undos m_heard m_ending) := by
  refine gm_ofW (cc := cX9_wordsEnding) (maxL := 4) (ret := (some .int)) (by decide +kernel) rfl (Nat.le_of_ble_eq_true rfl) ?_
  intro p e s m below meth c A C0 hH ls hl
  generalize ([.ref q, .int x1] : List Value).toArray = args at C0 ⊢
  have hl : lv_has ls 4 [(0, .ref q), (1, .int x1)] := hl
  generalize s.heap = H at hH ⊢
  generalize ([] : List Loc) = locs at hH ⊢
  obtain ⟨hx, hb, hml, hr, hown, hts, hA, hK, hX, hlocks⟩ := id C0
  unfold fX9_wordsEnding at h
  refine lv_iconst (v := 0) hx hb dX9_wordsEnding_0 (by decide) ?_
  refine lv_istore_n (lv' := [(2, .int 0), (0, .ref q), (1, .int x1)]) hx hb dX9_wordsEnding_1 rfl hl (by decide) rfl (fun ls hl => ?_)
  refine lv_iconst (v := 0) hx hb dX9_wordsEnding_2 (by decide) ?_
  refine lv_istore_n (lv' := [(3, .int 0), (2, .int 0), (0, .ref q), (1, .int x1)]) hx hb dX9_wordsEnding_3 rfl hl (by decide) rfl (fun ls hl => ?_)
  unfold fX9_wordsEnding_b4 at h
  exact tX9_wordsEnding_b4 C0  _ _ _ _ _ _ h hH (lv_sub hl [2, 3, 1, 0] rfl)

/-! X9_addWord -/
abbrev wX9_addWord (cI : ClassId) (q q_ending q_meaning q_cost q_alikeTo q_kind q_want q_saidAhead q_heardWord q_heardAnswer : Nat) (m_words : Int32) (m_people : Int32) (m_said : Int32) (m_undos : Int32) (m_heard : Int32) (m_ending : Nat → Int32) (m_meaning : Nat → Int32) (m_cost : Nat → Int32) : va_W := [(q, .inr (9, [.ref q_ending, .ref q_meaning, .ref q_cost, .int m_words, .ref q_alikeTo, .ref q_kind, .ref q_want, .int m_people, .int m_said, .ref q_saidAhead, .int m_undos, .ref q_heardWord, .ref q_heardAnswer, .int m_heard])), (q_ending, .inl (cI, 10, .inl m_ending)), (q_meaning, .inl (cI, 10, .inl m_meaning)), (q_cost, .inl (cI, 10, .inl m_cost))]
abbrev rX9_addWord : Room := { frames := 0, cells := 0, slots := 0, locals := 0 }
def fX9_addWord (N : Nat) (m_words : Int32) (m_undos : Int32) (m_ending : Nat → Int32) (m_meaning : Nat → Int32) (m_cost : Nat → Int32) (x1 : Int32) (x2 : Int32) (x3 : Int32) : Option (Int32 × Int32 × Int32 × (Nat → Int32) × (Nat → Int32) × (Nat → Int32)) := (if m_words < 10 then gm_chk m_words 10 (gm_chk m_words 10 (gm_chk m_words 10 (gm_let ((m_words + 1) : Int32) (fun (v5 : Int32) => some (m_words, v5, 0, upd m_ending (Int32.toNatClampNeg m_words) x1, upd m_meaning (Int32.toNatClampNeg m_words) x2, upd m_cost (Int32.toNatClampNeg m_words) x3))))) else some ((-4), m_words, m_undos, m_ending, m_meaning, m_cost))
set_option maxRecDepth 20000 in
theorem inX9_addWord_X9 : ∀ w ∈ u_ws RX9 TX9 14, w ∈ wsX9_addWord := fun w h => by
  obtain ⟨k, hk, rfl⟩ := List.mem_map.mp h
  have hk2 := List.mem_range.mp hk
  exact List.mem_of_getElem? (i := 6 + k) (by rcases (show k = 0 ∨ k = 1 ∨ k = 2 ∨ k = 3 ∨ k = 4 ∨ k = 5 ∨ k = 6 ∨ k = 7 ∨ k = 8 ∨ k = 9 ∨ k = 10 ∨ k = 11 ∨ k = 12 ∨ k = 13 by omega) with rfl | rfl | rfl | rfl | rfl | rfl | rfl | rfl | rfl | rfl | rfl | rfl | rfl | rfl <;> rfl)
set_option maxRecDepth 100000 in
set_option maxHeartbeats 4000000 in
theorem mX9_addWord (l : Launch) (dC : Nat → ClassId) (dI : Nat → Nat → Nat) (cI : ClassId) (q q_ending q_meaning q_cost q_alikeTo q_kind q_want q_saidAhead q_heardWord q_heardAnswer : Nat) (m_words : Int32) (m_people : Int32) (m_said : Int32) (m_undos : Int32) (m_heard : Int32) (m_ending : Nat → Int32) (m_meaning : Nat → Int32) (m_cost : Nat → Int32) (x1 : Int32) (x2 : Int32) (x3 : Int32) {N : Nat} {out : Int32 × Int32 × Int32 × (Nat → Int32) × (Nat → Int32) × (Nat → Int32)} (h : fX9_addWord N m_words m_undos m_ending m_meaning m_cost x1 x2 x3 = some out) : gm_Met l yX9_addWord wsX9_addWord rX9_addWord (dC, dI) [(cI, .int)] gm_T [.ref q, .int x1, .int x2, .int x3] (wX9_addWord cI q q_ending q_meaning q_cost q_alikeTo q_kind q_want q_saidAhead q_heardWord q_heardAnswer m_words m_people m_said m_undos m_heard m_ending m_meaning m_cost) (some (.int out.1)) (wX9_addWord cI q q_ending q_meaning q_cost q_alikeTo q_kind q_want q_saidAhead q_heardWord q_heardAnswer out.2.1 m_people m_said out.2.2.1 m_heard out.2.2.2.1 out.2.2.2.2.1 out.2.2.2.2.2) := by
  refine gm_ofW (cc := cX9_addWord) (maxL := 4) (ret := (some .int)) (by decide +kernel) rfl (Nat.le_of_ble_eq_true rfl) ?_
  intro p e s m below meth c A C0 hH ls hl
  generalize ([.ref q, .int x1, .int x2, .int x3] : List Value).toArray = args at C0 ⊢
  have hl : lv_has ls 4 [(0, .ref q), (1, .int x1), (2, .int x2), (3, .int x3)] := hl
  generalize s.heap = H at hH ⊢
  generalize ([] : List Loc) = locs at hH ⊢
  obtain ⟨hx, hb, hml, hr, hown, hts, hA, hK, hX, hlocks⟩ := id C0
  unfold fX9_addWord at h
  refine lv_aload_n hx hb dX9_addWord_0 rfl (lv_at hl 0 rfl) ?_
  refine gm_get (ci := 9) C0 hH inX9_addWord_X9 0 3 1 rfl rfl (by decide) rfl rfl dX9_addWord_1 ?_
  refine lv_bipush (v := 10) hx hb dX9_addWord_4 (by decide) ?_
  refine lv_icmp_lt (tgt := 12) hx hb dX9_addWord_6 (by decide) (fun hc1 => ?_) (fun hc1 => ?_)
  · replace h := gm_pos hc1 h
    refine lv_aload_n hx hb dX9_addWord_12 rfl (lv_at hl 0 rfl) ?_
    refine gm_get (ci := 9) C0 hH inX9_addWord_X9 0 0 2 rfl rfl (by decide) rfl rfl dX9_addWord_13 ?_
    refine lv_aload_n hx hb dX9_addWord_16 rfl (lv_at hl 0 rfl) ?_
    refine gm_get (ci := 9) C0 hH inX9_addWord_X9 0 3 1 rfl rfl (by decide) rfl rfl dX9_addWord_17 ?_
    refine lv_iload_n hx hb dX9_addWord_20 rfl (lv_at hl 1 rfl) ?_
    obtain ⟨hi2, h⟩ := gm_chk_e h
    refine gm_iast C0 hH hi2 1 0 rfl rfl dX9_addWord_21 (fun H locs hH => ?_)
    have hH : gm_H (dC, dI) A s (wX9_addWord cI q q_ending q_meaning q_cost q_alikeTo q_kind q_want q_saidAhead q_heardWord q_heardAnswer m_words m_people m_said m_undos m_heard (upd m_ending (Int32.toNatClampNeg m_words) x1) m_meaning m_cost) H locs := hH
    refine lv_aload_n hx hb dX9_addWord_22 rfl (lv_at hl 0 rfl) ?_
    refine gm_get (ci := 9) C0 hH inX9_addWord_X9 0 1 3 rfl rfl (by decide) rfl rfl dX9_addWord_23 ?_
    refine lv_aload_n hx hb dX9_addWord_26 rfl (lv_at hl 0 rfl) ?_
    refine gm_get (ci := 9) C0 hH inX9_addWord_X9 0 3 1 rfl rfl (by decide) rfl rfl dX9_addWord_27 ?_
    refine lv_iload_n hx hb dX9_addWord_30 rfl (lv_at hl 2 rfl) ?_
    obtain ⟨hi3, h⟩ := gm_chk_e h
    refine gm_iast C0 hH hi3 2 0 rfl rfl dX9_addWord_31 (fun H locs hH => ?_)
    have hH : gm_H (dC, dI) A s (wX9_addWord cI q q_ending q_meaning q_cost q_alikeTo q_kind q_want q_saidAhead q_heardWord q_heardAnswer m_words m_people m_said m_undos m_heard (upd m_ending (Int32.toNatClampNeg m_words) x1) (upd m_meaning (Int32.toNatClampNeg m_words) x2) m_cost) H locs := hH
    refine lv_aload_n hx hb dX9_addWord_32 rfl (lv_at hl 0 rfl) ?_
    refine gm_get (ci := 9) C0 hH inX9_addWord_X9 0 2 4 rfl rfl (by decide) rfl rfl dX9_addWord_33 ?_
    refine lv_aload_n hx hb dX9_addWord_36 rfl (lv_at hl 0 rfl) ?_
    refine gm_get (ci := 9) C0 hH inX9_addWord_X9 0 3 1 rfl rfl (by decide) rfl rfl dX9_addWord_37 ?_
    refine lv_iload_n hx hb dX9_addWord_40 rfl (lv_at hl 3 rfl) ?_
    obtain ⟨hi4, h⟩ := gm_chk_e h
    refine gm_iast C0 hH hi4 3 0 rfl rfl dX9_addWord_41 (fun H locs hH => ?_)
    have hH : gm_H (dC, dI) A s (wX9_addWord cI q q_ending q_meaning q_cost q_alikeTo q_kind q_want q_saidAhead q_heardWord q_heardAnswer m_words m_people m_said m_undos m_heard (upd m_ending (Int32.toNatClampNeg m_words) x1) (upd m_meaning (Int32.toNatClampNeg m_words) x2) (upd m_cost (Int32.toNatClampNeg m_words) x3)) H locs := hH
    refine lv_aload_n hx hb dX9_addWord_42 rfl (lv_at hl 0 rfl) ?_
    refine lv_iconst (v := 0) hx hb dX9_addWord_43 (by decide) ?_
    refine gm_putf (ci := 9) C0 hH inX9_addWord_X9 tyX9_ok nmX9 0 10 5 rfl rfl (by decide) rfl rfl rfl rfl rfl (Nat.le_of_ble_eq_true rfl) dX9_addWord_44 (fun H locs hH => ?_)
    have hH : gm_H (dC, dI) A s (wX9_addWord cI q q_ending q_meaning q_cost q_alikeTo q_kind q_want q_saidAhead q_heardWord q_heardAnswer m_words m_people m_said 0 m_heard (upd m_ending (Int32.toNatClampNeg m_words) x1) (upd m_meaning (Int32.toNatClampNeg m_words) x2) (upd m_cost (Int32.toNatClampNeg m_words) x3)) H locs := hH
    refine lv_aload_n hx hb dX9_addWord_47 rfl (lv_at hl 0 rfl) ?_
    refine lv_dup hx hb dX9_addWord_48 rfl ?_
    refine gm_get (ci := 9) C0 hH inX9_addWord_X9 0 3 1 rfl rfl (by decide) rfl rfl dX9_addWord_49 ?_
    refine lv_dup_x1 hx hb dX9_addWord_52 rfl rfl ?_
    refine lv_iconst (v := 1) hx hb dX9_addWord_53 (by decide) ?_
    refine lv_iadd hx hb dX9_addWord_54 ?_
    refine lv_topi (fun v5 ev5 => ?_)
    replace h := gm_let_e ev5 h
    refine gm_putf (ci := 9) C0 hH inX9_addWord_X9 tyX9_ok nmX9 0 3 1 rfl rfl (by decide) rfl rfl rfl rfl rfl (Nat.le_of_ble_eq_true rfl) dX9_addWord_55 (fun H locs hH => ?_)
    have hH : gm_H (dC, dI) A s (wX9_addWord cI q q_ending q_meaning q_cost q_alikeTo q_kind q_want q_saidAhead q_heardWord q_heardAnswer v5 m_people m_said 0 m_heard (upd m_ending (Int32.toNatClampNeg m_words) x1) (upd m_meaning (Int32.toNatClampNeg m_words) x2) (upd m_cost (Int32.toNatClampNeg m_words) x3)) H locs := hH
    cases h
    exact gm_iret C0 hH dX9_addWord_58
  · replace h := gm_neg hc1 h
    refine lv_bipush (v := (-4)) hx hb dX9_addWord_9 (by decide) ?_
    cases h
    exact gm_iret C0 hH dX9_addWord_11

/-! X9_copyFrom -/
abbrev wX9_copyFrom (cI : ClassId) (q q_ending q_meaning q_cost q_alikeTo q_kind q_want q_saidAhead q_heardWord q_heardAnswer q_a1 q_a1_ending q_a1_meaning q_a1_cost q_a1_alikeTo q_a1_kind q_a1_want q_a1_saidAhead q_a1_heardWord q_a1_heardAnswer : Nat) (m_words : Int32) (m_people : Int32) (m_said : Int32) (m_undos : Int32) (m_heard : Int32) (m_ending : Nat → Int32) (m_meaning : Nat → Int32) (m_cost : Nat → Int32) (m_alikeTo : Nat → Int32) (m_kind : Nat → Int32) (m_want : Nat → Int32) (m_saidAhead : Nat → Int32) (m_heardWord : Nat → Int32) (m_heardAnswer : Nat → Int32) (m_a1_words : Int32) (m_a1_people : Int32) (m_a1_said : Int32) (m_a1_undos : Int32) (m_a1_heard : Int32) (m_a1_ending : Nat → Int32) (m_a1_meaning : Nat → Int32) (m_a1_cost : Nat → Int32) (m_a1_alikeTo : Nat → Int32) (m_a1_kind : Nat → Int32) (m_a1_want : Nat → Int32) (m_a1_saidAhead : Nat → Int32) (m_a1_heardWord : Nat → Int32) (m_a1_heardAnswer : Nat → Int32) : va_W := [(q, .inr (9, [.ref q_ending, .ref q_meaning, .ref q_cost, .int m_words, .ref q_alikeTo, .ref q_kind, .ref q_want, .int m_people, .int m_said, .ref q_saidAhead, .int m_undos, .ref q_heardWord, .ref q_heardAnswer, .int m_heard])), (q_ending, .inl (cI, 10, .inl m_ending)), (q_meaning, .inl (cI, 10, .inl m_meaning)), (q_cost, .inl (cI, 10, .inl m_cost)), (q_alikeTo, .inl (cI, 8, .inl m_alikeTo)), (q_kind, .inl (cI, 5, .inl m_kind)), (q_want, .inl (cI, 5, .inl m_want)), (q_saidAhead, .inl (cI, 8, .inl m_saidAhead)), (q_heardWord, .inl (cI, 6, .inl m_heardWord)), (q_heardAnswer, .inl (cI, 6, .inl m_heardAnswer)), (q_a1, .inr (9, [.ref q_a1_ending, .ref q_a1_meaning, .ref q_a1_cost, .int m_a1_words, .ref q_a1_alikeTo, .ref q_a1_kind, .ref q_a1_want, .int m_a1_people, .int m_a1_said, .ref q_a1_saidAhead, .int m_a1_undos, .ref q_a1_heardWord, .ref q_a1_heardAnswer, .int m_a1_heard])), (q_a1_ending, .inl (cI, 10, .inl m_a1_ending)), (q_a1_meaning, .inl (cI, 10, .inl m_a1_meaning)), (q_a1_cost, .inl (cI, 10, .inl m_a1_cost)), (q_a1_alikeTo, .inl (cI, 8, .inl m_a1_alikeTo)), (q_a1_kind, .inl (cI, 5, .inl m_a1_kind)), (q_a1_want, .inl (cI, 5, .inl m_a1_want)), (q_a1_saidAhead, .inl (cI, 8, .inl m_a1_saidAhead)), (q_a1_heardWord, .inl (cI, 6, .inl m_a1_heardWord)), (q_a1_heardAnswer, .inl (cI, 6, .inl m_a1_heardAnswer))]
abbrev rX9_copyFrom : Room := { frames := 1, cells := 0, slots := 0, locals := 26 }
def fX9_copyFrom (N : Nat) (m_words : Int32) (m_people : Int32) (m_said : Int32) (m_undos : Int32) (m_heard : Int32) (m_ending : Nat → Int32) (m_meaning : Nat → Int32) (m_cost : Nat → Int32) (m_alikeTo : Nat → Int32) (m_kind : Nat → Int32) (m_want : Nat → Int32) (m_saidAhead : Nat → Int32) (m_heardWord : Nat → Int32) (m_heardAnswer : Nat → Int32) (m_a1_words : Int32) (m_a1_people : Int32) (m_a1_said : Int32) (m_a1_undos : Int32) (m_a1_heard : Int32) (m_a1_ending : Nat → Int32) (m_a1_meaning : Nat → Int32) (m_a1_cost : Nat → Int32) (m_a1_alikeTo : Nat → Int32) (m_a1_kind : Nat → Int32) (m_a1_want : Nat → Int32) (m_a1_saidAhead : Nat → Int32) (m_a1_heardWord : Nat → Int32) (m_a1_heardAnswer : Nat → Int32)  : Option (Int32 × Int32 × Int32 × Int32 × Int32 × (Nat → Int32) × (Nat → Int32) × (Nat → Int32) × (Nat → Int32) × (Nat → Int32) × (Nat → Int32) × (Nat → Int32) × (Nat → Int32) × (Nat → Int32)) := some (m_a1_words, m_a1_people, m_a1_said, m_a1_undos, m_a1_heard, va_cpy m_a1_ending m_ending (0 : Int32).toNatClampNeg (0 : Int32).toNatClampNeg (10 : Int32).toNatClampNeg, va_cpy m_a1_meaning m_meaning (0 : Int32).toNatClampNeg (0 : Int32).toNatClampNeg (10 : Int32).toNatClampNeg, va_cpy m_a1_cost m_cost (0 : Int32).toNatClampNeg (0 : Int32).toNatClampNeg (10 : Int32).toNatClampNeg, va_cpy m_a1_alikeTo m_alikeTo (0 : Int32).toNatClampNeg (0 : Int32).toNatClampNeg (8 : Int32).toNatClampNeg, va_cpy m_a1_kind m_kind (0 : Int32).toNatClampNeg (0 : Int32).toNatClampNeg (5 : Int32).toNatClampNeg, va_cpy m_a1_want m_want (0 : Int32).toNatClampNeg (0 : Int32).toNatClampNeg (5 : Int32).toNatClampNeg, va_cpy m_a1_saidAhead m_saidAhead (0 : Int32).toNatClampNeg (0 : Int32).toNatClampNeg (8 : Int32).toNatClampNeg, va_cpy m_a1_heardWord m_heardWord (0 : Int32).toNatClampNeg (0 : Int32).toNatClampNeg (6 : Int32).toNatClampNeg, va_cpy m_a1_heardAnswer m_heardAnswer (0 : Int32).toNatClampNeg (0 : Int32).toNatClampNeg (6 : Int32).toNatClampNeg)
set_option maxRecDepth 20000 in
theorem inX9_copyFrom_X9 : ∀ w ∈ u_ws RX9 TX9 14, w ∈ wsX9_copyFrom := fun w h => by
  obtain ⟨k, hk, rfl⟩ := List.mem_map.mp h
  have hk2 := List.mem_range.mp hk
  exact List.mem_of_getElem? (i := 19 + k) (by rcases (show k = 0 ∨ k = 1 ∨ k = 2 ∨ k = 3 ∨ k = 4 ∨ k = 5 ∨ k = 6 ∨ k = 7 ∨ k = 8 ∨ k = 9 ∨ k = 10 ∨ k = 11 ∨ k = 12 ∨ k = 13 by omega) with rfl | rfl | rfl | rfl | rfl | rfl | rfl | rfl | rfl | rfl | rfl | rfl | rfl | rfl <;> rfl)
set_option maxRecDepth 100000 in
set_option maxHeartbeats 4000000 in
theorem mX9_copyFrom (l : Launch) (dC : Nat → ClassId) (dI : Nat → Nat → Nat) (cI : ClassId) (q q_ending q_meaning q_cost q_alikeTo q_kind q_want q_saidAhead q_heardWord q_heardAnswer q_a1 q_a1_ending q_a1_meaning q_a1_cost q_a1_alikeTo q_a1_kind q_a1_want q_a1_saidAhead q_a1_heardWord q_a1_heardAnswer : Nat) (m_words : Int32) (m_people : Int32) (m_said : Int32) (m_undos : Int32) (m_heard : Int32) (m_ending : Nat → Int32) (m_meaning : Nat → Int32) (m_cost : Nat → Int32) (m_alikeTo : Nat → Int32) (m_kind : Nat → Int32) (m_want : Nat → Int32) (m_saidAhead : Nat → Int32) (m_heardWord : Nat → Int32) (m_heardAnswer : Nat → Int32) (m_a1_words : Int32) (m_a1_people : Int32) (m_a1_said : Int32) (m_a1_undos : Int32) (m_a1_heard : Int32) (m_a1_ending : Nat → Int32) (m_a1_meaning : Nat → Int32) (m_a1_cost : Nat → Int32) (m_a1_alikeTo : Nat → Int32) (m_a1_kind : Nat → Int32) (m_a1_want : Nat → Int32) (m_a1_saidAhead : Nat → Int32) (m_a1_heardWord : Nat → Int32) (m_a1_heardAnswer : Nat → Int32)  {N : Nat} {out : Int32 × Int32 × Int32 × Int32 × Int32 × (Nat → Int32) × (Nat → Int32) × (Nat → Int32) × (Nat → Int32) × (Nat → Int32) × (Nat → Int32) × (Nat → Int32) × (Nat → Int32) × (Nat → Int32)} (h : fX9_copyFrom N m_words m_people m_said m_undos m_heard m_ending m_meaning m_cost m_alikeTo m_kind m_want m_saidAhead m_heardWord m_heardAnswer m_a1_words m_a1_people m_a1_said m_a1_undos m_a1_heard m_a1_ending m_a1_meaning m_a1_cost m_a1_alikeTo m_a1_kind m_a1_want m_a1_saidAhead m_a1_heardWord m_a1_heardAnswer = some out) : gm_Met l yX9_copyFrom wsX9_copyFrom rX9_copyFrom (dC, dI) [(cI, .int)] gm_T [.ref q, .ref q_a1] (wX9_copyFrom cI q q_ending q_meaning q_cost q_alikeTo q_kind q_want q_saidAhead q_heardWord q_heardAnswer q_a1 q_a1_ending q_a1_meaning q_a1_cost q_a1_alikeTo q_a1_kind q_a1_want q_a1_saidAhead q_a1_heardWord q_a1_heardAnswer m_words m_people m_said m_undos m_heard m_ending m_meaning m_cost m_alikeTo m_kind m_want m_saidAhead m_heardWord m_heardAnswer m_a1_words m_a1_people m_a1_said m_a1_undos m_a1_heard m_a1_ending m_a1_meaning m_a1_cost m_a1_alikeTo m_a1_kind m_a1_want m_a1_saidAhead m_a1_heardWord m_a1_heardAnswer) none (wX9_copyFrom cI q q_ending q_meaning q_cost q_alikeTo q_kind q_want q_saidAhead q_heardWord q_heardAnswer q_a1 q_a1_ending q_a1_meaning q_a1_cost q_a1_alikeTo q_a1_kind q_a1_want q_a1_saidAhead q_a1_heardWord q_a1_heardAnswer out.1 out.2.1 out.2.2.1 out.2.2.2.1 out.2.2.2.2.1 out.2.2.2.2.2.1 out.2.2.2.2.2.2.1 out.2.2.2.2.2.2.2.1 out.2.2.2.2.2.2.2.2.1 out.2.2.2.2.2.2.2.2.2.1 out.2.2.2.2.2.2.2.2.2.2.1 out.2.2.2.2.2.2.2.2.2.2.2.1 out.2.2.2.2.2.2.2.2.2.2.2.2.1 out.2.2.2.2.2.2.2.2.2.2.2.2.2 m_a1_words m_a1_people m_a1_said m_a1_undos m_a1_heard m_a1_ending m_a1_meaning m_a1_cost m_a1_alikeTo m_a1_kind m_a1_want m_a1_saidAhead m_a1_heardWord m_a1_heardAnswer) := by
  refine gm_ofW (cc := cX9_copyFrom) (maxL := 2) (ret := none) (by decide +kernel) rfl (Nat.le_of_ble_eq_true rfl) ?_
  intro p e s m below meth c A C0 hH ls hl
  generalize ([.ref q, .ref q_a1] : List Value).toArray = args at C0 ⊢
  have hl : lv_has ls 2 [(0, .ref q), (1, .ref q_a1)] := hl
  generalize s.heap = H at hH ⊢
  generalize ([] : List Loc) = locs at hH ⊢
  obtain ⟨hx, hb, hml, hr, hown, hts, hA, hK, hX, hlocks⟩ := id C0
  unfold fX9_copyFrom at h
  refine lv_aload_n hx hb dX9_copyFrom_0 rfl (lv_at hl 1 rfl) ?_
  refine gm_get (ci := 9) C0 hH inX9_copyFrom_X9 10 0 1 rfl rfl (by decide) rfl rfl dX9_copyFrom_1 ?_
  refine lv_iconst (v := 0) hx hb dX9_copyFrom_4 (by decide) ?_
  refine lv_aload_n hx hb dX9_copyFrom_5 rfl (lv_at hl 0 rfl) ?_
  refine gm_get (ci := 9) C0 hH inX9_copyFrom_X9 0 0 1 rfl rfl (by decide) rfl rfl dX9_copyFrom_6 ?_
  refine lv_iconst (v := 0) hx hb dX9_copyFrom_9 (by decide) ?_
  refine lv_bipush (v := 10) hx hb dX9_copyFrom_10 (by decide) ?_
  refine va_copyi (sp := 0) (dp := 0) (n := 10) (ty := .int) hx hb (by rw [hml]; exact hl.1.symm) hown (gm_at C0 2 rfl) (gm_at C0 3 rfl) (gm_at C0 4 rfl) (gm_at C0 5 rfl) hK hH.1 hH.2.1 hH.2.2 11 1 0 0 rfl rfl rfl rfl rfl (by decide) (by decide) (by decide) (by decide) (by decide) (fun _ _ => rfl) (by decide) (by decide) dX9_copyFrom_12 (fun H locs h1 h2 h3 => ?_)
  have hH : gm_H (dC, dI) A s (wX9_copyFrom cI q q_ending q_meaning q_cost q_alikeTo q_kind q_want q_saidAhead q_heardWord q_heardAnswer q_a1 q_a1_ending q_a1_meaning q_a1_cost q_a1_alikeTo q_a1_kind q_a1_want q_a1_saidAhead q_a1_heardWord q_a1_heardAnswer m_words m_people m_said m_undos m_heard (va_cpy m_a1_ending m_ending (0 : Int32).toNatClampNeg (0 : Int32).toNatClampNeg (10 : Int32).toNatClampNeg) m_meaning m_cost m_alikeTo m_kind m_want m_saidAhead m_heardWord m_heardAnswer m_a1_words m_a1_people m_a1_said m_a1_undos m_a1_heard m_a1_ending m_a1_meaning m_a1_cost m_a1_alikeTo m_a1_kind m_a1_want m_a1_saidAhead m_a1_heardWord m_a1_heardAnswer) H locs := ⟨h1, h2, h3⟩
  refine lv_aload_n hx hb dX9_copyFrom_15 rfl (lv_at hl 1 rfl) ?_
  refine gm_get (ci := 9) C0 hH inX9_copyFrom_X9 10 1 6 rfl rfl (by decide) rfl rfl dX9_copyFrom_16 ?_
  refine lv_iconst (v := 0) hx hb dX9_copyFrom_19 (by decide) ?_
  refine lv_aload_n hx hb dX9_copyFrom_20 rfl (lv_at hl 0 rfl) ?_
  refine gm_get (ci := 9) C0 hH inX9_copyFrom_X9 0 1 6 rfl rfl (by decide) rfl rfl dX9_copyFrom_21 ?_
  refine lv_iconst (v := 0) hx hb dX9_copyFrom_24 (by decide) ?_
  refine lv_bipush (v := 10) hx hb dX9_copyFrom_25 (by decide) ?_
  refine va_copyi (sp := 0) (dp := 0) (n := 10) (ty := .int) hx hb (by rw [hml]; exact hl.1.symm) hown (gm_at C0 2 rfl) (gm_at C0 3 rfl) (gm_at C0 4 rfl) (gm_at C0 5 rfl) hK hH.1 hH.2.1 hH.2.2 12 2 0 0 rfl rfl rfl rfl rfl (by decide) (by decide) (by decide) (by decide) (by decide) (fun _ _ => rfl) (by decide) (by decide) dX9_copyFrom_27 (fun H locs h1 h2 h3 => ?_)
  have hH : gm_H (dC, dI) A s (wX9_copyFrom cI q q_ending q_meaning q_cost q_alikeTo q_kind q_want q_saidAhead q_heardWord q_heardAnswer q_a1 q_a1_ending q_a1_meaning q_a1_cost q_a1_alikeTo q_a1_kind q_a1_want q_a1_saidAhead q_a1_heardWord q_a1_heardAnswer m_words m_people m_said m_undos m_heard (va_cpy m_a1_ending m_ending (0 : Int32).toNatClampNeg (0 : Int32).toNatClampNeg (10 : Int32).toNatClampNeg) (va_cpy m_a1_meaning m_meaning (0 : Int32).toNatClampNeg (0 : Int32).toNatClampNeg (10 : Int32).toNatClampNeg) m_cost m_alikeTo m_kind m_want m_saidAhead m_heardWord m_heardAnswer m_a1_words m_a1_people m_a1_said m_a1_undos m_a1_heard m_a1_ending m_a1_meaning m_a1_cost m_a1_alikeTo m_a1_kind m_a1_want m_a1_saidAhead m_a1_heardWord m_a1_heardAnswer) H locs := ⟨h1, h2, h3⟩
  refine lv_aload_n hx hb dX9_copyFrom_30 rfl (lv_at hl 1 rfl) ?_
  refine gm_get (ci := 9) C0 hH inX9_copyFrom_X9 10 2 7 rfl rfl (by decide) rfl rfl dX9_copyFrom_31 ?_
  refine lv_iconst (v := 0) hx hb dX9_copyFrom_34 (by decide) ?_
  refine lv_aload_n hx hb dX9_copyFrom_35 rfl (lv_at hl 0 rfl) ?_
  refine gm_get (ci := 9) C0 hH inX9_copyFrom_X9 0 2 7 rfl rfl (by decide) rfl rfl dX9_copyFrom_36 ?_
  refine lv_iconst (v := 0) hx hb dX9_copyFrom_39 (by decide) ?_
  refine lv_bipush (v := 10) hx hb dX9_copyFrom_40 (by decide) ?_
  refine va_copyi (sp := 0) (dp := 0) (n := 10) (ty := .int) hx hb (by rw [hml]; exact hl.1.symm) hown (gm_at C0 2 rfl) (gm_at C0 3 rfl) (gm_at C0 4 rfl) (gm_at C0 5 rfl) hK hH.1 hH.2.1 hH.2.2 13 3 0 0 rfl rfl rfl rfl rfl (by decide) (by decide) (by decide) (by decide) (by decide) (fun _ _ => rfl) (by decide) (by decide) dX9_copyFrom_42 (fun H locs h1 h2 h3 => ?_)
  have hH : gm_H (dC, dI) A s (wX9_copyFrom cI q q_ending q_meaning q_cost q_alikeTo q_kind q_want q_saidAhead q_heardWord q_heardAnswer q_a1 q_a1_ending q_a1_meaning q_a1_cost q_a1_alikeTo q_a1_kind q_a1_want q_a1_saidAhead q_a1_heardWord q_a1_heardAnswer m_words m_people m_said m_undos m_heard (va_cpy m_a1_ending m_ending (0 : Int32).toNatClampNeg (0 : Int32).toNatClampNeg (10 : Int32).toNatClampNeg) (va_cpy m_a1_meaning m_meaning (0 : Int32).toNatClampNeg (0 : Int32).toNatClampNeg (10 : Int32).toNatClampNeg) (va_cpy m_a1_cost m_cost (0 : Int32).toNatClampNeg (0 : Int32).toNatClampNeg (10 : Int32).toNatClampNeg) m_alikeTo m_kind m_want m_saidAhead m_heardWord m_heardAnswer m_a1_words m_a1_people m_a1_said m_a1_undos m_a1_heard m_a1_ending m_a1_meaning m_a1_cost m_a1_alikeTo m_a1_kind m_a1_want m_a1_saidAhead m_a1_heardWord m_a1_heardAnswer) H locs := ⟨h1, h2, h3⟩
  refine lv_aload_n hx hb dX9_copyFrom_45 rfl (lv_at hl 0 rfl) ?_
  refine lv_aload_n hx hb dX9_copyFrom_46 rfl (lv_at hl 1 rfl) ?_
  refine gm_get (ci := 9) C0 hH inX9_copyFrom_X9 10 3 8 rfl rfl (by decide) rfl rfl dX9_copyFrom_47 ?_
  refine gm_putf (ci := 9) C0 hH inX9_copyFrom_X9 tyX9_ok nmX9 0 3 8 rfl rfl (by decide) rfl rfl rfl rfl rfl (Nat.le_of_ble_eq_true rfl) dX9_copyFrom_50 (fun H locs hH => ?_)
  have hH : gm_H (dC, dI) A s (wX9_copyFrom cI q q_ending q_meaning q_cost q_alikeTo q_kind q_want q_saidAhead q_heardWord q_heardAnswer q_a1 q_a1_ending q_a1_meaning q_a1_cost q_a1_alikeTo q_a1_kind q_a1_want q_a1_saidAhead q_a1_heardWord q_a1_heardAnswer m_a1_words m_people m_said m_undos m_heard (va_cpy m_a1_ending m_ending (0 : Int32).toNatClampNeg (0 : Int32).toNatClampNeg (10 : Int32).toNatClampNeg) (va_cpy m_a1_meaning m_meaning (0 : Int32).toNatClampNeg (0 : Int32).toNatClampNeg (10 : Int32).toNatClampNeg) (va_cpy m_a1_cost m_cost (0 : Int32).toNatClampNeg (0 : Int32).toNatClampNeg (10 : Int32).toNatClampNeg) m_alikeTo m_kind m_want m_saidAhead m_heardWord m_heardAnswer m_a1_words m_a1_people m_a1_said m_a1_undos m_a1_heard m_a1_ending m_a1_meaning m_a1_cost m_a1_alikeTo m_a1_kind m_a1_want m_a1_saidAhead m_a1_heardWord m_a1_heardAnswer) H locs := hH
  refine lv_aload_n hx hb dX9_copyFrom_53 rfl (lv_at hl 1 rfl) ?_
  refine gm_get (ci := 9) C0 hH inX9_copyFrom_X9 10 4 9 rfl rfl (by decide) rfl rfl dX9_copyFrom_54 ?_
  refine lv_iconst (v := 0) hx hb dX9_copyFrom_57 (by decide) ?_
  refine lv_aload_n hx hb dX9_copyFrom_58 rfl (lv_at hl 0 rfl) ?_
  refine gm_get (ci := 9) C0 hH inX9_copyFrom_X9 0 4 9 rfl rfl (by decide) rfl rfl dX9_copyFrom_59 ?_
  refine lv_iconst (v := 0) hx hb dX9_copyFrom_62 (by decide) ?_
  refine lv_bipush (v := 8) hx hb dX9_copyFrom_63 (by decide) ?_
  refine va_copyi (sp := 0) (dp := 0) (n := 8) (ty := .int) hx hb (by rw [hml]; exact hl.1.symm) hown (gm_at C0 2 rfl) (gm_at C0 3 rfl) (gm_at C0 4 rfl) (gm_at C0 5 rfl) hK hH.1 hH.2.1 hH.2.2 14 4 0 0 rfl rfl rfl rfl rfl (by decide) (by decide) (by decide) (by decide) (by decide) (fun _ _ => rfl) (by decide) (by decide) dX9_copyFrom_65 (fun H locs h1 h2 h3 => ?_)
  have hH : gm_H (dC, dI) A s (wX9_copyFrom cI q q_ending q_meaning q_cost q_alikeTo q_kind q_want q_saidAhead q_heardWord q_heardAnswer q_a1 q_a1_ending q_a1_meaning q_a1_cost q_a1_alikeTo q_a1_kind q_a1_want q_a1_saidAhead q_a1_heardWord q_a1_heardAnswer m_a1_words m_people m_said m_undos m_heard (va_cpy m_a1_ending m_ending (0 : Int32).toNatClampNeg (0 : Int32).toNatClampNeg (10 : Int32).toNatClampNeg) (va_cpy m_a1_meaning m_meaning (0 : Int32).toNatClampNeg (0 : Int32).toNatClampNeg (10 : Int32).toNatClampNeg) (va_cpy m_a1_cost m_cost (0 : Int32).toNatClampNeg (0 : Int32).toNatClampNeg (10 : Int32).toNatClampNeg) (va_cpy m_a1_alikeTo m_alikeTo (0 : Int32).toNatClampNeg (0 : Int32).toNatClampNeg (8 : Int32).toNatClampNeg) m_kind m_want m_saidAhead m_heardWord m_heardAnswer m_a1_words m_a1_people m_a1_said m_a1_undos m_a1_heard m_a1_ending m_a1_meaning m_a1_cost m_a1_alikeTo m_a1_kind m_a1_want m_a1_saidAhead m_a1_heardWord m_a1_heardAnswer) H locs := ⟨h1, h2, h3⟩
  refine lv_aload_n hx hb dX9_copyFrom_68 rfl (lv_at hl 1 rfl) ?_
  refine gm_get (ci := 9) C0 hH inX9_copyFrom_X9 10 5 10 rfl rfl (by decide) rfl rfl dX9_copyFrom_69 ?_
  refine lv_iconst (v := 0) hx hb dX9_copyFrom_72 (by decide) ?_
  refine lv_aload_n hx hb dX9_copyFrom_73 rfl (lv_at hl 0 rfl) ?_
  refine gm_get (ci := 9) C0 hH inX9_copyFrom_X9 0 5 10 rfl rfl (by decide) rfl rfl dX9_copyFrom_74 ?_
  refine lv_iconst (v := 0) hx hb dX9_copyFrom_77 (by decide) ?_
  refine lv_iconst (v := 5) hx hb dX9_copyFrom_78 (by decide) ?_
  refine va_copyi (sp := 0) (dp := 0) (n := 5) (ty := .int) hx hb (by rw [hml]; exact hl.1.symm) hown (gm_at C0 2 rfl) (gm_at C0 3 rfl) (gm_at C0 4 rfl) (gm_at C0 5 rfl) hK hH.1 hH.2.1 hH.2.2 15 5 0 0 rfl rfl rfl rfl rfl (by decide) (by decide) (by decide) (by decide) (by decide) (fun _ _ => rfl) (by decide) (by decide) dX9_copyFrom_79 (fun H locs h1 h2 h3 => ?_)
  have hH : gm_H (dC, dI) A s (wX9_copyFrom cI q q_ending q_meaning q_cost q_alikeTo q_kind q_want q_saidAhead q_heardWord q_heardAnswer q_a1 q_a1_ending q_a1_meaning q_a1_cost q_a1_alikeTo q_a1_kind q_a1_want q_a1_saidAhead q_a1_heardWord q_a1_heardAnswer m_a1_words m_people m_said m_undos m_heard (va_cpy m_a1_ending m_ending (0 : Int32).toNatClampNeg (0 : Int32).toNatClampNeg (10 : Int32).toNatClampNeg) (va_cpy m_a1_meaning m_meaning (0 : Int32).toNatClampNeg (0 : Int32).toNatClampNeg (10 : Int32).toNatClampNeg) (va_cpy m_a1_cost m_cost (0 : Int32).toNatClampNeg (0 : Int32).toNatClampNeg (10 : Int32).toNatClampNeg) (va_cpy m_a1_alikeTo m_alikeTo (0 : Int32).toNatClampNeg (0 : Int32).toNatClampNeg (8 : Int32).toNatClampNeg) (va_cpy m_a1_kind m_kind (0 : Int32).toNatClampNeg (0 : Int32).toNatClampNeg (5 : Int32).toNatClampNeg) m_want m_saidAhead m_heardWord m_heardAnswer m_a1_words m_a1_people m_a1_said m_a1_undos m_a1_heard m_a1_ending m_a1_meaning m_a1_cost m_a1_alikeTo m_a1_kind m_a1_want m_a1_saidAhead m_a1_heardWord m_a1_heardAnswer) H locs := ⟨h1, h2, h3⟩
  refine lv_aload_n hx hb dX9_copyFrom_82 rfl (lv_at hl 1 rfl) ?_
  refine gm_get (ci := 9) C0 hH inX9_copyFrom_X9 10 6 11 rfl rfl (by decide) rfl rfl dX9_copyFrom_83 ?_
  refine lv_iconst (v := 0) hx hb dX9_copyFrom_86 (by decide) ?_
  refine lv_aload_n hx hb dX9_copyFrom_87 rfl (lv_at hl 0 rfl) ?_
  refine gm_get (ci := 9) C0 hH inX9_copyFrom_X9 0 6 11 rfl rfl (by decide) rfl rfl dX9_copyFrom_88 ?_
  refine lv_iconst (v := 0) hx hb dX9_copyFrom_91 (by decide) ?_
  refine lv_iconst (v := 5) hx hb dX9_copyFrom_92 (by decide) ?_
  refine va_copyi (sp := 0) (dp := 0) (n := 5) (ty := .int) hx hb (by rw [hml]; exact hl.1.symm) hown (gm_at C0 2 rfl) (gm_at C0 3 rfl) (gm_at C0 4 rfl) (gm_at C0 5 rfl) hK hH.1 hH.2.1 hH.2.2 16 6 0 0 rfl rfl rfl rfl rfl (by decide) (by decide) (by decide) (by decide) (by decide) (fun _ _ => rfl) (by decide) (by decide) dX9_copyFrom_93 (fun H locs h1 h2 h3 => ?_)
  have hH : gm_H (dC, dI) A s (wX9_copyFrom cI q q_ending q_meaning q_cost q_alikeTo q_kind q_want q_saidAhead q_heardWord q_heardAnswer q_a1 q_a1_ending q_a1_meaning q_a1_cost q_a1_alikeTo q_a1_kind q_a1_want q_a1_saidAhead q_a1_heardWord q_a1_heardAnswer m_a1_words m_people m_said m_undos m_heard (va_cpy m_a1_ending m_ending (0 : Int32).toNatClampNeg (0 : Int32).toNatClampNeg (10 : Int32).toNatClampNeg) (va_cpy m_a1_meaning m_meaning (0 : Int32).toNatClampNeg (0 : Int32).toNatClampNeg (10 : Int32).toNatClampNeg) (va_cpy m_a1_cost m_cost (0 : Int32).toNatClampNeg (0 : Int32).toNatClampNeg (10 : Int32).toNatClampNeg) (va_cpy m_a1_alikeTo m_alikeTo (0 : Int32).toNatClampNeg (0 : Int32).toNatClampNeg (8 : Int32).toNatClampNeg) (va_cpy m_a1_kind m_kind (0 : Int32).toNatClampNeg (0 : Int32).toNatClampNeg (5 : Int32).toNatClampNeg) (va_cpy m_a1_want m_want (0 : Int32).toNatClampNeg (0 : Int32).toNatClampNeg (5 : Int32).toNatClampNeg) m_saidAhead m_heardWord m_heardAnswer m_a1_words m_a1_people m_a1_said m_a1_undos m_a1_heard m_a1_ending m_a1_meaning m_a1_cost m_a1_alikeTo m_a1_kind m_a1_want m_a1_saidAhead m_a1_heardWord m_a1_heardAnswer) H locs := ⟨h1, h2, h3⟩
  refine lv_aload_n hx hb dX9_copyFrom_96 rfl (lv_at hl 0 rfl) ?_
  refine lv_aload_n hx hb dX9_copyFrom_97 rfl (lv_at hl 1 rfl) ?_
  refine gm_get (ci := 9) C0 hH inX9_copyFrom_X9 10 7 12 rfl rfl (by decide) rfl rfl dX9_copyFrom_98 ?_
  refine gm_putf (ci := 9) C0 hH inX9_copyFrom_X9 tyX9_ok nmX9 0 7 12 rfl rfl (by decide) rfl rfl rfl rfl rfl (Nat.le_of_ble_eq_true rfl) dX9_copyFrom_101 (fun H locs hH => ?_)
  have hH : gm_H (dC, dI) A s (wX9_copyFrom cI q q_ending q_meaning q_cost q_alikeTo q_kind q_want q_saidAhead q_heardWord q_heardAnswer q_a1 q_a1_ending q_a1_meaning q_a1_cost q_a1_alikeTo q_a1_kind q_a1_want q_a1_saidAhead q_a1_heardWord q_a1_heardAnswer m_a1_words m_a1_people m_said m_undos m_heard (va_cpy m_a1_ending m_ending (0 : Int32).toNatClampNeg (0 : Int32).toNatClampNeg (10 : Int32).toNatClampNeg) (va_cpy m_a1_meaning m_meaning (0 : Int32).toNatClampNeg (0 : Int32).toNatClampNeg (10 : Int32).toNatClampNeg) (va_cpy m_a1_cost m_cost (0 : Int32).toNatClampNeg (0 : Int32).toNatClampNeg (10 : Int32).toNatClampNeg) (va_cpy m_a1_alikeTo m_alikeTo (0 : Int32).toNatClampNeg (0 : Int32).toNatClampNeg (8 : Int32).toNatClampNeg) (va_cpy m_a1_kind m_kind (0 : Int32).toNatClampNeg (0 : Int32).toNatClampNeg (5 : Int32).toNatClampNeg) (va_cpy m_a1_want m_want (0 : Int32).toNatClampNeg (0 : Int32).toNatClampNeg (5 : Int32).toNatClampNeg) m_saidAhead m_heardWord m_heardAnswer m_a1_words m_a1_people m_a1_said m_a1_undos m_a1_heard m_a1_ending m_a1_meaning m_a1_cost m_a1_alikeTo m_a1_kind m_a1_want m_a1_saidAhead m_a1_heardWord m_a1_heardAnswer) H locs := hH
  refine lv_aload_n hx hb dX9_copyFrom_104 rfl (lv_at hl 0 rfl) ?_
  refine lv_aload_n hx hb dX9_copyFrom_105 rfl (lv_at hl 1 rfl) ?_
  refine gm_get (ci := 9) C0 hH inX9_copyFrom_X9 10 8 13 rfl rfl (by decide) rfl rfl dX9_copyFrom_106 ?_
  refine gm_putf (ci := 9) C0 hH inX9_copyFrom_X9 tyX9_ok nmX9 0 8 13 rfl rfl (by decide) rfl rfl rfl rfl rfl (Nat.le_of_ble_eq_true rfl) dX9_copyFrom_109 (fun H locs hH => ?_)
  have hH : gm_H (dC, dI) A s (wX9_copyFrom cI q q_ending q_meaning q_cost q_alikeTo q_kind q_want q_saidAhead q_heardWord q_heardAnswer q_a1 q_a1_ending q_a1_meaning q_a1_cost q_a1_alikeTo q_a1_kind q_a1_want q_a1_saidAhead q_a1_heardWord q_a1_heardAnswer m_a1_words m_a1_people m_a1_said m_undos m_heard (va_cpy m_a1_ending m_ending (0 : Int32).toNatClampNeg (0 : Int32).toNatClampNeg (10 : Int32).toNatClampNeg) (va_cpy m_a1_meaning m_meaning (0 : Int32).toNatClampNeg (0 : Int32).toNatClampNeg (10 : Int32).toNatClampNeg) (va_cpy m_a1_cost m_cost (0 : Int32).toNatClampNeg (0 : Int32).toNatClampNeg (10 : Int32).toNatClampNeg) (va_cpy m_a1_alikeTo m_alikeTo (0 : Int32).toNatClampNeg (0 : Int32).toNatClampNeg (8 : Int32).toNatClampNeg) (va_cpy m_a1_kind m_kind (0 : Int32).toNatClampNeg (0 : Int32).toNatClampNeg (5 : Int32).toNatClampNeg) (va_cpy m_a1_want m_want (0 : Int32).toNatClampNeg (0 : Int32).toNatClampNeg (5 : Int32).toNatClampNeg) m_saidAhead m_heardWord m_heardAnswer m_a1_words m_a1_people m_a1_said m_a1_undos m_a1_heard m_a1_ending m_a1_meaning m_a1_cost m_a1_alikeTo m_a1_kind m_a1_want m_a1_saidAhead m_a1_heardWord m_a1_heardAnswer) H locs := hH
  refine lv_aload_n hx hb dX9_copyFrom_112 rfl (lv_at hl 1 rfl) ?_
  refine gm_get (ci := 9) C0 hH inX9_copyFrom_X9 10 9 14 rfl rfl (by decide) rfl rfl dX9_copyFrom_113 ?_
  refine lv_iconst (v := 0) hx hb dX9_copyFrom_116 (by decide) ?_
  refine lv_aload_n hx hb dX9_copyFrom_117 rfl (lv_at hl 0 rfl) ?_
  refine gm_get (ci := 9) C0 hH inX9_copyFrom_X9 0 9 14 rfl rfl (by decide) rfl rfl dX9_copyFrom_118 ?_
  refine lv_iconst (v := 0) hx hb dX9_copyFrom_121 (by decide) ?_
  refine lv_bipush (v := 8) hx hb dX9_copyFrom_122 (by decide) ?_
  refine va_copyi (sp := 0) (dp := 0) (n := 8) (ty := .int) hx hb (by rw [hml]; exact hl.1.symm) hown (gm_at C0 2 rfl) (gm_at C0 3 rfl) (gm_at C0 4 rfl) (gm_at C0 5 rfl) hK hH.1 hH.2.1 hH.2.2 17 7 0 0 rfl rfl rfl rfl rfl (by decide) (by decide) (by decide) (by decide) (by decide) (fun _ _ => rfl) (by decide) (by decide) dX9_copyFrom_124 (fun H locs h1 h2 h3 => ?_)
  have hH : gm_H (dC, dI) A s (wX9_copyFrom cI q q_ending q_meaning q_cost q_alikeTo q_kind q_want q_saidAhead q_heardWord q_heardAnswer q_a1 q_a1_ending q_a1_meaning q_a1_cost q_a1_alikeTo q_a1_kind q_a1_want q_a1_saidAhead q_a1_heardWord q_a1_heardAnswer m_a1_words m_a1_people m_a1_said m_undos m_heard (va_cpy m_a1_ending m_ending (0 : Int32).toNatClampNeg (0 : Int32).toNatClampNeg (10 : Int32).toNatClampNeg) (va_cpy m_a1_meaning m_meaning (0 : Int32).toNatClampNeg (0 : Int32).toNatClampNeg (10 : Int32).toNatClampNeg) (va_cpy m_a1_cost m_cost (0 : Int32).toNatClampNeg (0 : Int32).toNatClampNeg (10 : Int32).toNatClampNeg) (va_cpy m_a1_alikeTo m_alikeTo (0 : Int32).toNatClampNeg (0 : Int32).toNatClampNeg (8 : Int32).toNatClampNeg) (va_cpy m_a1_kind m_kind (0 : Int32).toNatClampNeg (0 : Int32).toNatClampNeg (5 : Int32).toNatClampNeg) (va_cpy m_a1_want m_want (0 : Int32).toNatClampNeg (0 : Int32).toNatClampNeg (5 : Int32).toNatClampNeg) (va_cpy m_a1_saidAhead m_saidAhead (0 : Int32).toNatClampNeg (0 : Int32).toNatClampNeg (8 : Int32).toNatClampNeg) m_heardWord m_heardAnswer m_a1_words m_a1_people m_a1_said m_a1_undos m_a1_heard m_a1_ending m_a1_meaning m_a1_cost m_a1_alikeTo m_a1_kind m_a1_want m_a1_saidAhead m_a1_heardWord m_a1_heardAnswer) H locs := ⟨h1, h2, h3⟩
  refine lv_aload_n hx hb dX9_copyFrom_127 rfl (lv_at hl 0 rfl) ?_
  refine lv_aload_n hx hb dX9_copyFrom_128 rfl (lv_at hl 1 rfl) ?_
  refine gm_get (ci := 9) C0 hH inX9_copyFrom_X9 10 10 15 rfl rfl (by decide) rfl rfl dX9_copyFrom_129 ?_
  refine gm_putf (ci := 9) C0 hH inX9_copyFrom_X9 tyX9_ok nmX9 0 10 15 rfl rfl (by decide) rfl rfl rfl rfl rfl (Nat.le_of_ble_eq_true rfl) dX9_copyFrom_132 (fun H locs hH => ?_)
  have hH : gm_H (dC, dI) A s (wX9_copyFrom cI q q_ending q_meaning q_cost q_alikeTo q_kind q_want q_saidAhead q_heardWord q_heardAnswer q_a1 q_a1_ending q_a1_meaning q_a1_cost q_a1_alikeTo q_a1_kind q_a1_want q_a1_saidAhead q_a1_heardWord q_a1_heardAnswer m_a1_words m_a1_people m_a1_said m_a1_undos m_heard (va_cpy m_a1_ending m_ending (0 : Int32).toNatClampNeg (0 : Int32).toNatClampNeg (10 : Int32).toNatClampNeg) (va_cpy m_a1_meaning m_meaning (0 : Int32).toNatClampNeg (0 : Int32).toNatClampNeg (10 : Int32).toNatClampNeg) (va_cpy m_a1_cost m_cost (0 : Int32).toNatClampNeg (0 : Int32).toNatClampNeg (10 : Int32).toNatClampNeg) (va_cpy m_a1_alikeTo m_alikeTo (0 : Int32).toNatClampNeg (0 : Int32).toNatClampNeg (8 : Int32).toNatClampNeg) (va_cpy m_a1_kind m_kind (0 : Int32).toNatClampNeg (0 : Int32).toNatClampNeg (5 : Int32).toNatClampNeg) (va_cpy m_a1_want m_want (0 : Int32).toNatClampNeg (0 : Int32).toNatClampNeg (5 : Int32).toNatClampNeg) (va_cpy m_a1_saidAhead m_saidAhead (0 : Int32).toNatClampNeg (0 : Int32).toNatClampNeg (8 : Int32).toNatClampNeg) m_heardWord m_heardAnswer m_a1_words m_a1_people m_a1_said m_a1_undos m_a1_heard m_a1_ending m_a1_meaning m_a1_cost m_a1_alikeTo m_a1_kind m_a1_want m_a1_saidAhead m_a1_heardWord m_a1_heardAnswer) H locs := hH
  refine lv_aload_n hx hb dX9_copyFrom_135 rfl (lv_at hl 1 rfl) ?_
  refine gm_get (ci := 9) C0 hH inX9_copyFrom_X9 10 11 16 rfl rfl (by decide) rfl rfl dX9_copyFrom_136 ?_
  refine lv_iconst (v := 0) hx hb dX9_copyFrom_139 (by decide) ?_
  refine lv_aload_n hx hb dX9_copyFrom_140 rfl (lv_at hl 0 rfl) ?_
  refine gm_get (ci := 9) C0 hH inX9_copyFrom_X9 0 11 16 rfl rfl (by decide) rfl rfl dX9_copyFrom_141 ?_
  refine lv_iconst (v := 0) hx hb dX9_copyFrom_144 (by decide) ?_
  refine lv_bipush (v := 6) hx hb dX9_copyFrom_145 (by decide) ?_
  refine va_copyi (sp := 0) (dp := 0) (n := 6) (ty := .int) hx hb (by rw [hml]; exact hl.1.symm) hown (gm_at C0 2 rfl) (gm_at C0 3 rfl) (gm_at C0 4 rfl) (gm_at C0 5 rfl) hK hH.1 hH.2.1 hH.2.2 18 8 0 0 rfl rfl rfl rfl rfl (by decide) (by decide) (by decide) (by decide) (by decide) (fun _ _ => rfl) (by decide) (by decide) dX9_copyFrom_147 (fun H locs h1 h2 h3 => ?_)
  have hH : gm_H (dC, dI) A s (wX9_copyFrom cI q q_ending q_meaning q_cost q_alikeTo q_kind q_want q_saidAhead q_heardWord q_heardAnswer q_a1 q_a1_ending q_a1_meaning q_a1_cost q_a1_alikeTo q_a1_kind q_a1_want q_a1_saidAhead q_a1_heardWord q_a1_heardAnswer m_a1_words m_a1_people m_a1_said m_a1_undos m_heard (va_cpy m_a1_ending m_ending (0 : Int32).toNatClampNeg (0 : Int32).toNatClampNeg (10 : Int32).toNatClampNeg) (va_cpy m_a1_meaning m_meaning (0 : Int32).toNatClampNeg (0 : Int32).toNatClampNeg (10 : Int32).toNatClampNeg) (va_cpy m_a1_cost m_cost (0 : Int32).toNatClampNeg (0 : Int32).toNatClampNeg (10 : Int32).toNatClampNeg) (va_cpy m_a1_alikeTo m_alikeTo (0 : Int32).toNatClampNeg (0 : Int32).toNatClampNeg (8 : Int32).toNatClampNeg) (va_cpy m_a1_kind m_kind (0 : Int32).toNatClampNeg (0 : Int32).toNatClampNeg (5 : Int32).toNatClampNeg) (va_cpy m_a1_want m_want (0 : Int32).toNatClampNeg (0 : Int32).toNatClampNeg (5 : Int32).toNatClampNeg) (va_cpy m_a1_saidAhead m_saidAhead (0 : Int32).toNatClampNeg (0 : Int32).toNatClampNeg (8 : Int32).toNatClampNeg) (va_cpy m_a1_heardWord m_heardWord (0 : Int32).toNatClampNeg (0 : Int32).toNatClampNeg (6 : Int32).toNatClampNeg) m_heardAnswer m_a1_words m_a1_people m_a1_said m_a1_undos m_a1_heard m_a1_ending m_a1_meaning m_a1_cost m_a1_alikeTo m_a1_kind m_a1_want m_a1_saidAhead m_a1_heardWord m_a1_heardAnswer) H locs := ⟨h1, h2, h3⟩
  refine lv_aload_n hx hb dX9_copyFrom_150 rfl (lv_at hl 1 rfl) ?_
  refine gm_get (ci := 9) C0 hH inX9_copyFrom_X9 10 12 17 rfl rfl (by decide) rfl rfl dX9_copyFrom_151 ?_
  refine lv_iconst (v := 0) hx hb dX9_copyFrom_154 (by decide) ?_
  refine lv_aload_n hx hb dX9_copyFrom_155 rfl (lv_at hl 0 rfl) ?_
  refine gm_get (ci := 9) C0 hH inX9_copyFrom_X9 0 12 17 rfl rfl (by decide) rfl rfl dX9_copyFrom_156 ?_
  refine lv_iconst (v := 0) hx hb dX9_copyFrom_159 (by decide) ?_
  refine lv_bipush (v := 6) hx hb dX9_copyFrom_160 (by decide) ?_
  refine va_copyi (sp := 0) (dp := 0) (n := 6) (ty := .int) hx hb (by rw [hml]; exact hl.1.symm) hown (gm_at C0 2 rfl) (gm_at C0 3 rfl) (gm_at C0 4 rfl) (gm_at C0 5 rfl) hK hH.1 hH.2.1 hH.2.2 19 9 0 0 rfl rfl rfl rfl rfl (by decide) (by decide) (by decide) (by decide) (by decide) (fun _ _ => rfl) (by decide) (by decide) dX9_copyFrom_162 (fun H locs h1 h2 h3 => ?_)
  have hH : gm_H (dC, dI) A s (wX9_copyFrom cI q q_ending q_meaning q_cost q_alikeTo q_kind q_want q_saidAhead q_heardWord q_heardAnswer q_a1 q_a1_ending q_a1_meaning q_a1_cost q_a1_alikeTo q_a1_kind q_a1_want q_a1_saidAhead q_a1_heardWord q_a1_heardAnswer m_a1_words m_a1_people m_a1_said m_a1_undos m_heard (va_cpy m_a1_ending m_ending (0 : Int32).toNatClampNeg (0 : Int32).toNatClampNeg (10 : Int32).toNatClampNeg) (va_cpy m_a1_meaning m_meaning (0 : Int32).toNatClampNeg (0 : Int32).toNatClampNeg (10 : Int32).toNatClampNeg) (va_cpy m_a1_cost m_cost (0 : Int32).toNatClampNeg (0 : Int32).toNatClampNeg (10 : Int32).toNatClampNeg) (va_cpy m_a1_alikeTo m_alikeTo (0 : Int32).toNatClampNeg (0 : Int32).toNatClampNeg (8 : Int32).toNatClampNeg) (va_cpy m_a1_kind m_kind (0 : Int32).toNatClampNeg (0 : Int32).toNatClampNeg (5 : Int32).toNatClampNeg) (va_cpy m_a1_want m_want (0 : Int32).toNatClampNeg (0 : Int32).toNatClampNeg (5 : Int32).toNatClampNeg) (va_cpy m_a1_saidAhead m_saidAhead (0 : Int32).toNatClampNeg (0 : Int32).toNatClampNeg (8 : Int32).toNatClampNeg) (va_cpy m_a1_heardWord m_heardWord (0 : Int32).toNatClampNeg (0 : Int32).toNatClampNeg (6 : Int32).toNatClampNeg) (va_cpy m_a1_heardAnswer m_heardAnswer (0 : Int32).toNatClampNeg (0 : Int32).toNatClampNeg (6 : Int32).toNatClampNeg) m_a1_words m_a1_people m_a1_said m_a1_undos m_a1_heard m_a1_ending m_a1_meaning m_a1_cost m_a1_alikeTo m_a1_kind m_a1_want m_a1_saidAhead m_a1_heardWord m_a1_heardAnswer) H locs := ⟨h1, h2, h3⟩
  refine lv_aload_n hx hb dX9_copyFrom_165 rfl (lv_at hl 0 rfl) ?_
  refine lv_aload_n hx hb dX9_copyFrom_166 rfl (lv_at hl 1 rfl) ?_
  refine gm_get (ci := 9) C0 hH inX9_copyFrom_X9 10 13 18 rfl rfl (by decide) rfl rfl dX9_copyFrom_167 ?_
  refine gm_putf (ci := 9) C0 hH inX9_copyFrom_X9 tyX9_ok nmX9 0 13 18 rfl rfl (by decide) rfl rfl rfl rfl rfl (Nat.le_of_ble_eq_true rfl) dX9_copyFrom_170 (fun H locs hH => ?_)
  have hH : gm_H (dC, dI) A s (wX9_copyFrom cI q q_ending q_meaning q_cost q_alikeTo q_kind q_want q_saidAhead q_heardWord q_heardAnswer q_a1 q_a1_ending q_a1_meaning q_a1_cost q_a1_alikeTo q_a1_kind q_a1_want q_a1_saidAhead q_a1_heardWord q_a1_heardAnswer m_a1_words m_a1_people m_a1_said m_a1_undos m_a1_heard (va_cpy m_a1_ending m_ending (0 : Int32).toNatClampNeg (0 : Int32).toNatClampNeg (10 : Int32).toNatClampNeg) (va_cpy m_a1_meaning m_meaning (0 : Int32).toNatClampNeg (0 : Int32).toNatClampNeg (10 : Int32).toNatClampNeg) (va_cpy m_a1_cost m_cost (0 : Int32).toNatClampNeg (0 : Int32).toNatClampNeg (10 : Int32).toNatClampNeg) (va_cpy m_a1_alikeTo m_alikeTo (0 : Int32).toNatClampNeg (0 : Int32).toNatClampNeg (8 : Int32).toNatClampNeg) (va_cpy m_a1_kind m_kind (0 : Int32).toNatClampNeg (0 : Int32).toNatClampNeg (5 : Int32).toNatClampNeg) (va_cpy m_a1_want m_want (0 : Int32).toNatClampNeg (0 : Int32).toNatClampNeg (5 : Int32).toNatClampNeg) (va_cpy m_a1_saidAhead m_saidAhead (0 : Int32).toNatClampNeg (0 : Int32).toNatClampNeg (8 : Int32).toNatClampNeg) (va_cpy m_a1_heardWord m_heardWord (0 : Int32).toNatClampNeg (0 : Int32).toNatClampNeg (6 : Int32).toNatClampNeg) (va_cpy m_a1_heardAnswer m_heardAnswer (0 : Int32).toNatClampNeg (0 : Int32).toNatClampNeg (6 : Int32).toNatClampNeg) m_a1_words m_a1_people m_a1_said m_a1_undos m_a1_heard m_a1_ending m_a1_meaning m_a1_cost m_a1_alikeTo m_a1_kind m_a1_want m_a1_saidAhead m_a1_heardWord m_a1_heardAnswer) H locs := hH
  cases h
  exact gm_vret C0 hH dX9_copyFrom_173

/-! X11_has -/
abbrev rX11_has : Room := { frames := 0, cells := 0, slots := 0, locals := 0 }
def fX11_has (N : Nat)  (x0 : Int32) (x1 : Int32) : Option (Int32) := (if ((x0 >>> (x1 &&& 31)) &&& 1) = 1 then some (1) else some (0))
set_option maxRecDepth 100000 in
set_option maxHeartbeats 4000000 in
theorem mX11_has (l : Launch) (dC : Nat → ClassId) (dI : Nat → Nat → Nat)  (x0 : Int32) (x1 : Int32) {N : Nat} {out : Int32} (h : fX11_has N x0 x1 = some out) : gm_Met l yX11_has wsX11_has rX11_has (dC, dI) [] gm_T [.int x0, .int x1] ([] : va_W) (some (.int out)) ([] : va_W) := by
  refine gm_ofW (cc := cX11_has) (maxL := 2) (ret := (some .boolean)) (by decide +kernel) rfl (Nat.le_of_ble_eq_true rfl) ?_
  intro p e s m below meth c A C0 hH ls hl
  generalize ([.int x0, .int x1] : List Value).toArray = args at C0 ⊢
  have hl : lv_has ls 2 [(0, .int x0), (1, .int x1)] := hl
  generalize s.heap = H at hH ⊢
  generalize ([] : List Loc) = locs at hH ⊢
  obtain ⟨hx, hb, hml, hr, hown, hts, hA, hK, hX, hlocks⟩ := id C0
  unfold fX11_has at h
  refine lv_iload_n hx hb dX11_has_0 rfl (lv_at hl 0 rfl) ?_
  refine lv_iload_n hx hb dX11_has_1 rfl (lv_at hl 1 rfl) ?_
  refine lv_ishr hx hb dX11_has_2 ?_
  refine lv_iconst (v := 1) hx hb dX11_has_3 (by decide) ?_
  refine lv_iand hx hb dX11_has_4 ?_
  refine lv_iconst (v := 1) hx hb dX11_has_5 (by decide) ?_
  refine lv_icmp_ne (tgt := 13) hx hb dX11_has_6 (by decide) (fun hc1 => ?_) (fun hc1 => ?_)
  · replace h := gm_neg hc1 h
    refine lv_iconst (v := 0) hx hb dX11_has_13 (by decide) ?_
    cases h
    exact gm_zret C0 hH (by decide) dX11_has_14
  · replace h := gm_pos hc1 h
    refine lv_iconst (v := 1) hx hb dX11_has_9 (by decide) ?_
    refine lv_goto (tgt := 14) hx hb dX11_has_10 (by decide) ?_
    cases h
    exact gm_zret C0 hH (by decide) dX11_has_14

/-! X11_bits -/
abbrev rX11_bits : Room := { frames := 0, cells := 0, slots := 0, locals := 0 }
def fX11_bits_b4_body (N : Nat)  (x0 : Int32) (r4 : Int32 → Int32 → Option (Int32)) (x1 : Int32) (x2 : Int32) : Option (Int32) := (if 10 ≤ x2 then some (x1) else gm_let ((x1 + ((x0 >>> (x2 &&& 31)) &&& 1)) : Int32) (fun (v2 : Int32) => (r4 v2 ((x2 + 1)))))
def fX11_bits_b4 (N : Nat)  (x0 : Int32) (x1 : Int32) (x2 : Int32) : Option (Int32) := gm_fix (fX11_bits_b4_body N  x0) (fun _ _ => none) N x1 x2
def fX11_bits (N : Nat)  (x0 : Int32) : Option (Int32) := (fX11_bits_b4 N  x0 0 0)
set_option maxRecDepth 100000 in
set_option maxHeartbeats 4000000 in
theorem tX11_bits_b4 {p : Program} {l : Launch} {e : Env} {s : State} {m : MethodId} {args : Array Value} {below : List Frame} {meth : Method} {c : Code} {A : Nat → Prop} {dC : Nat → ClassId} {dI : Nat → Nat → Nat} {x0 : Int32} (C0 : gm_C p s m args meth c (dC, dI) [] A gm_T RX11 cX11_bits 3 (some .int) wsX11_bits) {N : Nat} {out : Int32}  : ∀ (n : Nat), ∀ (x1 : Int32) (x2 : Int32) (H : Heap) (locs : List Loc) (ls : Array Slot), (gm_fix (fX11_bits_b4_body N  x0) (fun _ _ => none) n) x1 x2 = some out → gm_H (dC, dI) A s ([] : va_W) H locs → lv_has ls 3 [(0, .int x0), (1, .int x1), (2, .int x2)] → W p l e rX11_bits s m args below meth c H locs 0 0 (MQ below (gm_Q (dC, dI) [] A (some (.int out)) ([] : va_W)) args s 0 0 A) (F0 m 4 ls []) := by
  obtain ⟨hx, hb, hml, hr, hown, hts, hA, hK, hX, hlocks⟩ := id C0
  intro n
  induction n with
  | zero =>
    intro x1 x2 H locs ls h hH hl
    cases h
  | succ n hr4 =>
    intro x1 x2 H locs ls h hH hl
    rw [gm_fix_s] at h
    unfold fX11_bits_b4_body at h
    refine lv_iload_n hx hb dX11_bits_4 rfl (lv_at hl 2 rfl) ?_
    refine lv_bipush (v := 10) hx hb dX11_bits_5 (by decide) ?_
    refine lv_icmp_ge (tgt := 24) hx hb dX11_bits_7 (by decide) (fun hc1 => ?_) (fun hc1 => ?_)
    · replace h := gm_pos hc1 h
      refine lv_iload_n hx hb dX11_bits_24 rfl (lv_at hl 1 rfl) ?_
      cases h
      exact gm_iret C0 hH dX11_bits_25
    · replace h := gm_neg hc1 h
      refine lv_iload_n hx hb dX11_bits_10 rfl (lv_at hl 1 rfl) ?_
      refine lv_iload_n hx hb dX11_bits_11 rfl (lv_at hl 0 rfl) ?_
      refine lv_iload_n hx hb dX11_bits_12 rfl (lv_at hl 2 rfl) ?_
      refine lv_ishr hx hb dX11_bits_13 ?_
      refine lv_iconst (v := 1) hx hb dX11_bits_14 (by decide) ?_
      refine lv_iand hx hb dX11_bits_15 ?_
      refine lv_iadd hx hb dX11_bits_16 ?_
      refine lv_topi (fun v2 ev2 => ?_)
      replace h := gm_let_e ev2 h
      refine lv_istore_n (lv' := [(1, .int v2), (0, .int x0), (2, .int x2)]) hx hb dX11_bits_17 rfl hl (by decide) rfl (fun ls hl => ?_)
      refine lv_iinc (v := (x2 + 1)) (lv' := [(2, .int (x2 + 1)), (1, .int v2), (0, .int x0)]) hx hb dX11_bits_18 hl (k := 2) rfl rfl (by decide) rfl (fun ls hl => ?_)
      refine lv_goto (tgt := 4) hx hb dX11_bits_21 (by decide) ?_
      exact hr4 _ _ _ _ _ h hH (lv_sub hl [2, 1, 0] rfl)
set_option maxRecDepth 100000 in
set_option maxHeartbeats 4000000 in
theorem mX11_bits (l : Launch) (dC : Nat → ClassId) (dI : Nat → Nat → Nat)  (x0 : Int32) {N : Nat} {out : Int32} (h : fX11_bits N x0 = some out) : gm_Met l yX11_bits wsX11_bits rX11_bits (dC, dI) [] gm_T [.int x0] ([] : va_W) (some (.int out)) ([] : va_W) := by
  refine gm_ofW (cc := cX11_bits) (maxL := 3) (ret := (some .int)) (by decide +kernel) rfl (Nat.le_of_ble_eq_true rfl) ?_
  intro p e s m below meth c A C0 hH ls hl
  generalize ([.int x0] : List Value).toArray = args at C0 ⊢
  have hl : lv_has ls 3 [(0, .int x0)] := hl
  generalize s.heap = H at hH ⊢
  generalize ([] : List Loc) = locs at hH ⊢
  obtain ⟨hx, hb, hml, hr, hown, hts, hA, hK, hX, hlocks⟩ := id C0
  unfold fX11_bits at h
  refine lv_iconst (v := 0) hx hb dX11_bits_0 (by decide) ?_
  refine lv_istore_n (lv' := [(1, .int 0), (0, .int x0)]) hx hb dX11_bits_1 rfl hl (by decide) rfl (fun ls hl => ?_)
  refine lv_iconst (v := 0) hx hb dX11_bits_2 (by decide) ?_
  refine lv_istore_n (lv' := [(2, .int 0), (1, .int 0), (0, .int x0)]) hx hb dX11_bits_3 rfl hl (by decide) rfl (fun ls hl => ?_)
  unfold fX11_bits_b4 at h
  exact tX11_bits_b4 C0  _ _ _ _ _ _ h hH (lv_sub hl [2, 1, 0] rfl)

/-! X11_in -/
abbrev rX11_in : Room := { frames := 0, cells := 0, slots := 0, locals := 0 }
def fX11_in (N : Nat)  (x0 : Int64) (x2 : Int64) (x4 : Int64) : Option (Int32) := (if (lg_cmp x0 x2) < 0 then some (0) else (if 0 < (lg_cmp x0 x4) then some (0) else some (1)))
set_option maxRecDepth 100000 in
set_option maxHeartbeats 4000000 in
theorem mX11_in (l : Launch) (dC : Nat → ClassId) (dI : Nat → Nat → Nat)  (x0 : Int64) (x2 : Int64) (x4 : Int64) {N : Nat} {out : Int32} (h : fX11_in N x0 x2 x4 = some out) : gm_Met l yX11_in wsX11_in rX11_in (dC, dI) [] gm_T [.long x0, .long x2, .long x4] ([] : va_W) (some (.int out)) ([] : va_W) := by
  refine gm_ofW (cc := cX11_in) (maxL := 6) (ret := (some .boolean)) (by decide +kernel) rfl (Nat.le_of_ble_eq_true rfl) ?_
  intro p e s m below meth c A C0 hH ls hl
  generalize ([.long x0, .long x2, .long x4] : List Value).toArray = args at C0 ⊢
  have hl : lv_has ls 6 [(0, .long x0), (2, .long x2), (4, .long x4)] := hl
  generalize s.heap = H at hH ⊢
  generalize ([] : List Loc) = locs at hH ⊢
  obtain ⟨hx, hb, hml, hr, hown, hts, hA, hK, hX, hlocks⟩ := id C0
  unfold fX11_in at h
  refine lv_lload_n hx hb dX11_in_0 rfl (lv_at hl 0 rfl) ?_
  refine lv_lload_n hx hb dX11_in_1 rfl (lv_at hl 1 rfl) ?_
  refine W.lcmp hx hb dX11_in_2 ?_
  refine lv_if_lt (tgt := 17) hx hb dX11_in_3 (by decide) (fun hc1 => ?_) (fun hc1 => ?_)
  · replace h := gm_pos hc1 h
    refine lv_iconst (v := 0) hx hb dX11_in_17 (by decide) ?_
    cases h
    exact gm_zret C0 hH (by decide) dX11_in_18
  · replace h := gm_neg hc1 h
    refine lv_lload_n hx hb dX11_in_6 rfl (lv_at hl 0 rfl) ?_
    refine lv_lload hx hb dX11_in_7 (lv_at hl 2 rfl) ?_
    refine W.lcmp hx hb dX11_in_9 ?_
    refine lv_if_gt (tgt := 17) hx hb dX11_in_10 (by decide) (fun hc2 => ?_) (fun hc2 => ?_)
    · replace h := gm_pos hc2 h
      refine lv_iconst (v := 0) hx hb dX11_in_17 (by decide) ?_
      cases h
      exact gm_zret C0 hH (by decide) dX11_in_18
    · replace h := gm_neg hc2 h
      refine lv_iconst (v := 1) hx hb dX11_in_13 (by decide) ?_
      refine lv_goto (tgt := 18) hx hb dX11_in_14 (by decide) ?_
      cases h
      exact gm_zret C0 hH (by decide) dX11_in_18

/-! X11_ending -/
abbrev wX11_ending (cI : ClassId) (q q_tongue q_refused q_fresh q_kept q_isKept q_text q_said q_talk : Nat) (m_thrown : Int32) (m_size : Int32) (m_at : Int32) (m_start : Int32) (m_token : Int32) (m_value : Int64) (m_faultAt : Int32) (m_allowed : Int32) (m_firstPair : Int32) (m_secondPair : Int32) (m_above : Int64) (m_below : Int64) (m_tongue : Nat → Int32) : va_W := [(q, .inr (11, [.int m_thrown, .ref q_refused, .ref q_tongue, .ref q_fresh, .ref q_kept, .ref q_isKept, .ref q_text, .int m_size, .int m_at, .int m_start, .int m_token, .long m_value, .int m_faultAt, .ref q_said, .ref q_talk, .int m_allowed, .int m_firstPair, .int m_secondPair, .long m_above, .long m_below])), (q_tongue, .inl (cI, 73, .inl m_tongue))]
abbrev rX11_ending : Room := { frames := 0, cells := 0, slots := 0, locals := 0 }
def fX11_ending (N : Nat) (m_tongue : Nat → Int32) (x1 : Int32) : Option (Int32) := gm_chk ((5 + (3 * x1))) 73 (some ((m_tongue (Int32.toNatClampNeg ((5 + (3 * x1)))))))
set_option maxRecDepth 20000 in
theorem inX11_ending_X11 : ∀ w ∈ u_ws RX11 TX11 20, w ∈ wsX11_ending := fun w h => by
  obtain ⟨k, hk, rfl⟩ := List.mem_map.mp h
  have hk2 := List.mem_range.mp hk
  exact List.mem_of_getElem? (i := 2 + k) (by rcases (show k = 0 ∨ k = 1 ∨ k = 2 ∨ k = 3 ∨ k = 4 ∨ k = 5 ∨ k = 6 ∨ k = 7 ∨ k = 8 ∨ k = 9 ∨ k = 10 ∨ k = 11 ∨ k = 12 ∨ k = 13 ∨ k = 14 ∨ k = 15 ∨ k = 16 ∨ k = 17 ∨ k = 18 ∨ k = 19 by omega) with rfl | rfl | rfl | rfl | rfl | rfl | rfl | rfl | rfl | rfl | rfl | rfl | rfl | rfl | rfl | rfl | rfl | rfl | rfl | rfl <;> rfl)
set_option maxRecDepth 100000 in
set_option maxHeartbeats 4000000 in
theorem mX11_ending (l : Launch) (dC : Nat → ClassId) (dI : Nat → Nat → Nat) (cI : ClassId) (q q_tongue q_refused q_fresh q_kept q_isKept q_text q_said q_talk : Nat) (m_thrown : Int32) (m_size : Int32) (m_at : Int32) (m_start : Int32) (m_token : Int32) (m_value : Int64) (m_faultAt : Int32) (m_allowed : Int32) (m_firstPair : Int32) (m_secondPair : Int32) (m_above : Int64) (m_below : Int64) (m_tongue : Nat → Int32) (x1 : Int32) {N : Nat} {out : Int32} (h : fX11_ending N m_tongue x1 = some out) : gm_Met l yX11_ending wsX11_ending rX11_ending (dC, dI) [(cI, .int)] gm_T [.ref q, .int x1] (wX11_ending cI q q_tongue q_refused q_fresh q_kept q_isKept q_text q_said q_talk m_thrown m_size m_at m_start m_token m_value m_faultAt m_allowed m_firstPair m_secondPair m_above m_below m_tongue) (some (.int out)) (wX11_ending cI q q_tongue q_refused q_fresh q_kept q_isKept q_text q_said q_talk m_thrown m_size m_at m_start m_token m_value m_faultAt m_allowed m_firstPair m_secondPair m_above m_below m_tongue) := by
  refine gm_ofW (cc := cX11_ending) (maxL := 2) (ret := (some .int)) (by decide +kernel) rfl (Nat.le_of_ble_eq_true rfl) ?_
  intro p e s m below meth c A C0 hH ls hl
  generalize ([.ref q, .int x1] : List Value).toArray = args at C0 ⊢
  have hl : lv_has ls 2 [(0, .ref q), (1, .int x1)] := hl
  generalize s.heap = H at hH ⊢
  generalize ([] : List Loc) = locs at hH ⊢
  obtain ⟨hx, hb, hml, hr, hown, hts, hA, hK, hX, hlocks⟩ := id C0
  unfold fX11_ending at h
  refine lv_aload_n hx hb dX11_ending_0 rfl (lv_at hl 0 rfl) ?_
  refine gm_get (ci := 11) C0 hH inX11_ending_X11 0 2 1 rfl rfl (by decide) rfl rfl dX11_ending_1 ?_
  refine lv_iconst (v := 5) hx hb dX11_ending_4 (by decide) ?_
  refine lv_iconst (v := 3) hx hb dX11_ending_5 (by decide) ?_
  refine lv_iload_n hx hb dX11_ending_6 rfl (lv_at hl 1 rfl) ?_
  refine lv_imul hx hb dX11_ending_7 ?_
  refine lv_iadd hx hb dX11_ending_8 ?_
  obtain ⟨hi1, h⟩ := gm_chk_e h
  refine gm_iald C0 hH hi1 1 0 rfl rfl dX11_ending_9 ?_
  cases h
  exact gm_iret C0 hH dX11_ending_10

/-! X11_meaning -/
abbrev wX11_meaning (cI : ClassId) (q q_tongue q_refused q_fresh q_kept q_isKept q_text q_said q_talk : Nat) (m_thrown : Int32) (m_size : Int32) (m_at : Int32) (m_start : Int32) (m_token : Int32) (m_value : Int64) (m_faultAt : Int32) (m_allowed : Int32) (m_firstPair : Int32) (m_secondPair : Int32) (m_above : Int64) (m_below : Int64) (m_tongue : Nat → Int32) : va_W := [(q, .inr (11, [.int m_thrown, .ref q_refused, .ref q_tongue, .ref q_fresh, .ref q_kept, .ref q_isKept, .ref q_text, .int m_size, .int m_at, .int m_start, .int m_token, .long m_value, .int m_faultAt, .ref q_said, .ref q_talk, .int m_allowed, .int m_firstPair, .int m_secondPair, .long m_above, .long m_below])), (q_tongue, .inl (cI, 73, .inl m_tongue))]
abbrev rX11_meaning : Room := { frames := 0, cells := 0, slots := 0, locals := 0 }
def fX11_meaning (N : Nat) (m_tongue : Nat → Int32) (x1 : Int32) : Option (Int32) := gm_chk (((5 + (3 * x1)) + 1)) 73 (some ((m_tongue (Int32.toNatClampNeg (((5 + (3 * x1)) + 1))))))
set_option maxRecDepth 20000 in
theorem inX11_meaning_X11 : ∀ w ∈ u_ws RX11 TX11 20, w ∈ wsX11_meaning := fun w h => by
  obtain ⟨k, hk, rfl⟩ := List.mem_map.mp h
  have hk2 := List.mem_range.mp hk
  exact List.mem_of_getElem? (i := 2 + k) (by rcases (show k = 0 ∨ k = 1 ∨ k = 2 ∨ k = 3 ∨ k = 4 ∨ k = 5 ∨ k = 6 ∨ k = 7 ∨ k = 8 ∨ k = 9 ∨ k = 10 ∨ k = 11 ∨ k = 12 ∨ k = 13 ∨ k = 14 ∨ k = 15 ∨ k = 16 ∨ k = 17 ∨ k = 18 ∨ k = 19 by omega) with rfl | rfl | rfl | rfl | rfl | rfl | rfl | rfl | rfl | rfl | rfl | rfl | rfl | rfl | rfl | rfl | rfl | rfl | rfl | rfl <;> rfl)
set_option maxRecDepth 100000 in
set_option maxHeartbeats 4000000 in
theorem mX11_meaning (l : Launch) (dC : Nat → ClassId) (dI : Nat → Nat → Nat) (cI : ClassId) (q q_tongue q_refused q_fresh q_kept q_isKept q_text q_said q_talk : Nat) (m_thrown : Int32) (m_size : Int32) (m_at : Int32) (m_start : Int32) (m_token : Int32) (m_value : Int64) (m_faultAt : Int32) (m_allowed : Int32) (m_firstPair : Int32) (m_secondPair : Int32) (m_above : Int64) (m_below : Int64) (m_tongue : Nat → Int32) (x1 : Int32) {N : Nat} {out : Int32} (h : fX11_meaning N m_tongue x1 = some out) : gm_Met l yX11_meaning wsX11_meaning rX11_meaning (dC, dI) [(cI, .int)] gm_T [.ref q, .int x1] (wX11_meaning cI q q_tongue q_refused q_fresh q_kept q_isKept q_text q_said q_talk m_thrown m_size m_at m_start m_token m_value m_faultAt m_allowed m_firstPair m_secondPair m_above m_below m_tongue) (some (.int out)) (wX11_meaning cI q q_tongue q_refused q_fresh q_kept q_isKept q_text q_said q_talk m_thrown m_size m_at m_start m_token m_value m_faultAt m_allowed m_firstPair m_secondPair m_above m_below m_tongue) := by
  refine gm_ofW (cc := cX11_meaning) (maxL := 2) (ret := (some .int)) (by decide +kernel) rfl (Nat.le_of_ble_eq_true rfl) ?_
  intro p e s m below meth c A C0 hH ls hl
  generalize ([.ref q, .int x1] : List Value).toArray = args at C0 ⊢
  have hl : lv_has ls 2 [(0, .ref q), (1, .int x1)] := hl
  generalize s.heap = H at hH ⊢
  generalize ([] : List Loc) = locs at hH ⊢
  obtain ⟨hx, hb, hml, hr, hown, hts, hA, hK, hX, hlocks⟩ := id C0
  unfold fX11_meaning at h
  refine lv_aload_n hx hb dX11_meaning_0 rfl (lv_at hl 0 rfl) ?_
  refine gm_get (ci := 11) C0 hH inX11_meaning_X11 0 2 1 rfl rfl (by decide) rfl rfl dX11_meaning_1 ?_
  refine lv_iconst (v := 5) hx hb dX11_meaning_4 (by decide) ?_
  refine lv_iconst (v := 3) hx hb dX11_meaning_5 (by decide) ?_
  refine lv_iload_n hx hb dX11_meaning_6 rfl (lv_at hl 1 rfl) ?_
  refine lv_imul hx hb dX11_meaning_7 ?_
  refine lv_iadd hx hb dX11_meaning_8 ?_
  refine lv_iconst (v := 1) hx hb dX11_meaning_9 (by decide) ?_
  refine lv_iadd hx hb dX11_meaning_10 ?_
  obtain ⟨hi1, h⟩ := gm_chk_e h
  refine gm_iald C0 hH hi1 1 0 rfl rfl dX11_meaning_11 ?_
  cases h
  exact gm_iret C0 hH dX11_meaning_12

/-! X11_rhymes -/
abbrev wX11_rhymes (cI : ClassId) (q q_tongue q_refused q_fresh q_kept q_isKept q_text q_said q_talk : Nat) (m_thrown : Int32) (m_size : Int32) (m_at : Int32) (m_start : Int32) (m_token : Int32) (m_value : Int64) (m_faultAt : Int32) (m_allowed : Int32) (m_firstPair : Int32) (m_secondPair : Int32) (m_above : Int64) (m_below : Int64) (m_tongue : Nat → Int32) : va_W := [(q, .inr (11, [.int m_thrown, .ref q_refused, .ref q_tongue, .ref q_fresh, .ref q_kept, .ref q_isKept, .ref q_text, .int m_size, .int m_at, .int m_start, .int m_token, .long m_value, .int m_faultAt, .ref q_said, .ref q_talk, .int m_allowed, .int m_firstPair, .int m_secondPair, .long m_above, .long m_below])), (q_tongue, .inl (cI, 73, .inl m_tongue))]
abbrev rX11_rhymes : Room := { frames := 1, cells := 0, slots := 0, locals := 21 }
def fX11_rhymes (N : Nat) (m_tongue : Nat → Int32) (x1 : Int32) (x2 : Int32) : Option (Int32) := gm_bind (fX11_ending N m_tongue x1) (fun o1 => gm_bind (fX11_ending N m_tongue x2) (fun o2 => (if o1 = o2 then (if x1 = x2 then some (0) else some (1)) else some (0))))
set_option maxRecDepth 20000 in
theorem inX11_rhymes_X11 : ∀ w ∈ u_ws RX11 TX11 20, w ∈ wsX11_rhymes := fun w h => by
  obtain ⟨k, hk, rfl⟩ := List.mem_map.mp h
  have hk2 := List.mem_range.mp hk
  exact List.mem_of_getElem? (i := 7 + k) (by rcases (show k = 0 ∨ k = 1 ∨ k = 2 ∨ k = 3 ∨ k = 4 ∨ k = 5 ∨ k = 6 ∨ k = 7 ∨ k = 8 ∨ k = 9 ∨ k = 10 ∨ k = 11 ∨ k = 12 ∨ k = 13 ∨ k = 14 ∨ k = 15 ∨ k = 16 ∨ k = 17 ∨ k = 18 ∨ k = 19 by omega) with rfl | rfl | rfl | rfl | rfl | rfl | rfl | rfl | rfl | rfl | rfl | rfl | rfl | rfl | rfl | rfl | rfl | rfl | rfl | rfl <;> rfl)
set_option maxRecDepth 100000 in
set_option maxHeartbeats 4000000 in
theorem mX11_rhymes (l : Launch) (dC : Nat → ClassId) (dI : Nat → Nat → Nat) (cI : ClassId) (q q_tongue q_refused q_fresh q_kept q_isKept q_text q_said q_talk : Nat) (m_thrown : Int32) (m_size : Int32) (m_at : Int32) (m_start : Int32) (m_token : Int32) (m_value : Int64) (m_faultAt : Int32) (m_allowed : Int32) (m_firstPair : Int32) (m_secondPair : Int32) (m_above : Int64) (m_below : Int64) (m_tongue : Nat → Int32) (x1 : Int32) (x2 : Int32) {N : Nat} {out : Int32} (h : fX11_rhymes N m_tongue x1 x2 = some out) : gm_Met l yX11_rhymes wsX11_rhymes rX11_rhymes (dC, dI) [(cI, .int)] gm_T [.ref q, .int x1, .int x2] (wX11_rhymes cI q q_tongue q_refused q_fresh q_kept q_isKept q_text q_said q_talk m_thrown m_size m_at m_start m_token m_value m_faultAt m_allowed m_firstPair m_secondPair m_above m_below m_tongue) (some (.int out)) (wX11_rhymes cI q q_tongue q_refused q_fresh q_kept q_isKept q_text q_said q_talk m_thrown m_size m_at m_start m_token m_value m_faultAt m_allowed m_firstPair m_secondPair m_above m_below m_tongue) := by
  refine gm_ofW (cc := cX11_rhymes) (maxL := 3) (ret := (some .boolean)) (by decide +kernel) rfl (Nat.le_of_ble_eq_true rfl) ?_
  intro p e s m below meth c A C0 hH ls hl
  generalize ([.ref q, .int x1, .int x2] : List Value).toArray = args at C0 ⊢
  have hl : lv_has ls 3 [(0, .ref q), (1, .int x1), (2, .int x2)] := hl
  generalize s.heap = H at hH ⊢
  generalize ([] : List Loc) = locs at hH ⊢
  obtain ⟨hx, hb, hml, hr, hown, hts, hA, hK, hX, hlocks⟩ := id C0
  unfold fX11_rhymes at h
  refine lv_aload_n hx hb dX11_rhymes_0 rfl (lv_at hl 0 rfl) ?_
  refine lv_iload_n hx hb dX11_rhymes_1 rfl (lv_at hl 1 rfl) ?_
  obtain ⟨o1, ho1, h⟩ := gm_bind_e h
  refine gm_callV (As := [.int x1]) (rest := []) (n := 1) (ci := 11) (q0 := 0) C0 hH (mX11_ending l dC dI cI q q_tongue q_refused q_fresh q_kept q_isKept q_text q_said q_talk m_thrown m_size m_at m_start m_token m_value m_faultAt m_allowed m_firstPair m_secondPair m_above m_below m_tongue x1 ho1) gX11_rhymes_X11_ending rfl (by decide +kernel) ⟨rfl, rfl, Nat.le_of_ble_eq_true rfl, Nat.le_of_ble_eq_true rfl⟩ gm_T_ok (fun _ => trivial) [0, 1] rfl rfl rfl [0] rfl rfl rfl rfl hl.1 rfl (Nat.le_of_ble_eq_true rfl) dX11_rhymes_2 ⟨Nat.zero_le _, Nat.zero_le _⟩ (fun H locs hH => ?_)
  have hH : gm_H (dC, dI) A s (wX11_rhymes cI q q_tongue q_refused q_fresh q_kept q_isKept q_text q_said q_talk m_thrown m_size m_at m_start m_token m_value m_faultAt m_allowed m_firstPair m_secondPair m_above m_below m_tongue) H locs := hH
  refine lv_aload_n hx hb dX11_rhymes_5 rfl (lv_at hl 0 rfl) ?_
  refine lv_iload_n hx hb dX11_rhymes_6 rfl (lv_at hl 2 rfl) ?_
  obtain ⟨o2, ho2, h⟩ := gm_bind_e h
  refine gm_callV (As := [.int x2]) (rest := [.int o1]) (n := 1) (ci := 11) (q0 := 0) C0 hH (mX11_ending l dC dI cI q q_tongue q_refused q_fresh q_kept q_isKept q_text q_said q_talk m_thrown m_size m_at m_start m_token m_value m_faultAt m_allowed m_firstPair m_secondPair m_above m_below m_tongue x2 ho2) gX11_rhymes_X11_ending rfl (by decide +kernel) ⟨rfl, rfl, Nat.le_of_ble_eq_true rfl, Nat.le_of_ble_eq_true rfl⟩ gm_T_ok (fun _ => trivial) [0, 1] rfl rfl rfl [0] rfl rfl rfl rfl hl.1 rfl (Nat.le_of_ble_eq_true rfl) dX11_rhymes_7 ⟨Nat.zero_le _, Nat.zero_le _⟩ (fun H locs hH => ?_)
  have hH : gm_H (dC, dI) A s (wX11_rhymes cI q q_tongue q_refused q_fresh q_kept q_isKept q_text q_said q_talk m_thrown m_size m_at m_start m_token m_value m_faultAt m_allowed m_firstPair m_secondPair m_above m_below m_tongue) H locs := hH
  refine lv_icmp_ne (tgt := 22) hx hb dX11_rhymes_10 (by decide) (fun hc3 => ?_) (fun hc3 => ?_)
  · replace h := gm_neg hc3 h
    refine lv_iconst (v := 0) hx hb dX11_rhymes_22 (by decide) ?_
    cases h
    exact gm_zret C0 hH (by decide) dX11_rhymes_23
  · replace h := gm_pos hc3 h
    refine lv_iload_n hx hb dX11_rhymes_13 rfl (lv_at hl 1 rfl) ?_
    refine lv_iload_n hx hb dX11_rhymes_14 rfl (lv_at hl 2 rfl) ?_
    refine lv_icmp_eq (tgt := 22) hx hb dX11_rhymes_15 (by decide) (fun hc4 => ?_) (fun hc4 => ?_)
    · replace h := gm_pos hc4 h
      refine lv_iconst (v := 0) hx hb dX11_rhymes_22 (by decide) ?_
      cases h
      exact gm_zret C0 hH (by decide) dX11_rhymes_23
    · replace h := gm_neg hc4 h
      refine lv_iconst (v := 1) hx hb dX11_rhymes_18 (by decide) ?_
      refine lv_goto (tgt := 23) hx hb dX11_rhymes_19 (by decide) ?_
      cases h
      exact gm_zret C0 hH (by decide) dX11_rhymes_23

/-! X11_isHalf -/
abbrev wX11_isHalf (cI : ClassId) (q q_tongue q_refused q_fresh q_kept q_isKept q_text q_said q_talk : Nat) (m_thrown : Int32) (m_size : Int32) (m_at : Int32) (m_start : Int32) (m_token : Int32) (m_value : Int64) (m_faultAt : Int32) (m_allowed : Int32) (m_firstPair : Int32) (m_secondPair : Int32) (m_above : Int64) (m_below : Int64) (m_tongue : Nat → Int32) : va_W := [(q, .inr (11, [.int m_thrown, .ref q_refused, .ref q_tongue, .ref q_fresh, .ref q_kept, .ref q_isKept, .ref q_text, .int m_size, .int m_at, .int m_start, .int m_token, .long m_value, .int m_faultAt, .ref q_said, .ref q_talk, .int m_allowed, .int m_firstPair, .int m_secondPair, .long m_above, .long m_below])), (q_tongue, .inl (cI, 73, .inl m_tongue))]
abbrev rX11_isHalf : Room := { frames := 2, cells := 0, slots := 0, locals := 43 }
def fX11_isHalf_b33 (N : Nat)   : Option (Int32) := some (1)
def fX11_isHalf (N : Nat) (m_tongue : Nat → Int32) (x1 : Int32) (x2 : Int32) : Option (Int32) := gm_bind (fX11_rhymes N m_tongue x1 x2) (fun o1 => (if o1 = 0 then gm_bind (fX11_ending N m_tongue x1) (fun o3 => gm_chk ((45 + o3)) 73 (gm_bind (fX11_ending N m_tongue x2) (fun o5 => gm_bind (fX11_has N ((m_tongue (Int32.toNatClampNeg ((45 + o3))))) o5) (fun o6 => (if o6 = 0 then some (0) else (fX11_isHalf_b33 N  )))))) else (fX11_isHalf_b33 N  )))
set_option maxRecDepth 20000 in
theorem inX11_isHalf_X11 : ∀ w ∈ u_ws RX11 TX11 20, w ∈ wsX11_isHalf := fun w h => by
  obtain ⟨k, hk, rfl⟩ := List.mem_map.mp h
  have hk2 := List.mem_range.mp hk
  exact List.mem_of_getElem? (i := 14 + k) (by rcases (show k = 0 ∨ k = 1 ∨ k = 2 ∨ k = 3 ∨ k = 4 ∨ k = 5 ∨ k = 6 ∨ k = 7 ∨ k = 8 ∨ k = 9 ∨ k = 10 ∨ k = 11 ∨ k = 12 ∨ k = 13 ∨ k = 14 ∨ k = 15 ∨ k = 16 ∨ k = 17 ∨ k = 18 ∨ k = 19 by omega) with rfl | rfl | rfl | rfl | rfl | rfl | rfl | rfl | rfl | rfl | rfl | rfl | rfl | rfl | rfl | rfl | rfl | rfl | rfl | rfl <;> rfl)
set_option maxRecDepth 100000 in
set_option maxHeartbeats 4000000 in
theorem tX11_isHalf_b33 {p : Program} {l : Launch} {e : Env} {s : State} {m : MethodId} {args : Array Value} {below : List Frame} {meth : Method} {c : Code} {A : Nat → Prop} {dC : Nat → ClassId} {dI : Nat → Nat → Nat} {cI : ClassId} {q q_tongue q_refused q_fresh q_kept q_isKept q_text q_said q_talk : Nat} {m_thrown : Int32} {m_size : Int32} {m_at : Int32} {m_start : Int32} {m_token : Int32} {m_value : Int64} {m_faultAt : Int32} {m_allowed : Int32} {m_firstPair : Int32} {m_secondPair : Int32} {m_above : Int64} {m_below : Int64} {m_tongue : Nat → Int32} (C0 : gm_C p s m args meth c (dC, dI) [(cI, .int)] A gm_T RX11 cX11_isHalf 3 (some .boolean) wsX11_isHalf) {N : Nat} {out : Int32}   {H : Heap} {locs : List Loc} {ls : Array Slot} (h : fX11_isHalf_b33 N   = some out) (hH : gm_H (dC, dI) A s (wX11_isHalf cI q q_tongue q_refused q_fresh q_kept q_isKept q_text q_said q_talk m_thrown m_size m_at m_start m_token m_value m_faultAt m_allowed m_firstPair m_secondPair m_above m_below m_tongue) H locs) (hl : lv_has ls 3 []) : W p l e rX11_isHalf s m args below meth c H locs 0 0 (MQ below (gm_Q (dC, dI) [(cI, .int)] A (some (.int out)) (wX11_isHalf cI q q_tongue q_refused q_fresh q_kept q_isKept q_text q_said q_talk m_thrown m_size m_at m_start m_token m_value m_faultAt m_allowed m_firstPair m_secondPair m_above m_below m_tongue)) args s 0 0 A) (F0 m 33 ls []) := by
  obtain ⟨hx, hb, hml, hr, hown, hts, hA, hK, hX, hlocks⟩ := id C0
  unfold fX11_isHalf_b33 at h
  refine lv_iconst (v := 1) hx hb dX11_isHalf_33 (by decide) ?_
  refine lv_goto (tgt := 38) hx hb dX11_isHalf_34 (by decide) ?_
  cases h
  exact gm_zret C0 hH (by decide) dX11_isHalf_38
set_option maxRecDepth 100000 in
set_option maxHeartbeats 4000000 in
theorem mX11_isHalf (l : Launch) (dC : Nat → ClassId) (dI : Nat → Nat → Nat) (cI : ClassId) (q q_tongue q_refused q_fresh q_kept q_isKept q_text q_said q_talk : Nat) (m_thrown : Int32) (m_size : Int32) (m_at : Int32) (m_start : Int32) (m_token : Int32) (m_value : Int64) (m_faultAt : Int32) (m_allowed : Int32) (m_firstPair : Int32) (m_secondPair : Int32) (m_above : Int64) (m_below : Int64) (m_tongue : Nat → Int32) (x1 : Int32) (x2 : Int32) {N : Nat} {out : Int32} (h : fX11_isHalf N m_tongue x1 x2 = some out) : gm_Met l yX11_isHalf wsX11_isHalf rX11_isHalf (dC, dI) [(cI, .int)] gm_T [.ref q, .int x1, .int x2] (wX11_isHalf cI q q_tongue q_refused q_fresh q_kept q_isKept q_text q_said q_talk m_thrown m_size m_at m_start m_token m_value m_faultAt m_allowed m_firstPair m_secondPair m_above m_below m_tongue) (some (.int out)) (wX11_isHalf cI q q_tongue q_refused q_fresh q_kept q_isKept q_text q_said q_talk m_thrown m_size m_at m_start m_token m_value m_faultAt m_allowed m_firstPair m_secondPair m_above m_below m_tongue) := by
  refine gm_ofW (cc := cX11_isHalf) (maxL := 3) (ret := (some .boolean)) (by decide +kernel) rfl (Nat.le_of_ble_eq_true rfl) ?_
  intro p e s m below meth c A C0 hH ls hl
  generalize ([.ref q, .int x1, .int x2] : List Value).toArray = args at C0 ⊢
  have hl : lv_has ls 3 [(0, .ref q), (1, .int x1), (2, .int x2)] := hl
  generalize s.heap = H at hH ⊢
  generalize ([] : List Loc) = locs at hH ⊢
  obtain ⟨hx, hb, hml, hr, hown, hts, hA, hK, hX, hlocks⟩ := id C0
  unfold fX11_isHalf at h
  refine lv_aload_n hx hb dX11_isHalf_0 rfl (lv_at hl 0 rfl) ?_
  refine lv_iload_n hx hb dX11_isHalf_1 rfl (lv_at hl 1 rfl) ?_
  refine lv_iload_n hx hb dX11_isHalf_2 rfl (lv_at hl 2 rfl) ?_
  obtain ⟨o1, ho1, h⟩ := gm_bind_e h
  refine gm_callV (As := [.int x1, .int x2]) (rest := []) (n := 2) (ci := 11) (q0 := 0) C0 hH (mX11_rhymes l dC dI cI q q_tongue q_refused q_fresh q_kept q_isKept q_text q_said q_talk m_thrown m_size m_at m_start m_token m_value m_faultAt m_allowed m_firstPair m_secondPair m_above m_below m_tongue x1 x2 ho1) gX11_isHalf_X11_rhymes rfl (by decide +kernel) ⟨rfl, rfl, Nat.le_of_ble_eq_true rfl, Nat.le_of_ble_eq_true rfl⟩ gm_T_ok (fun _ => trivial) [0, 1] rfl rfl rfl [0] rfl rfl rfl rfl hl.1 rfl (Nat.le_of_ble_eq_true rfl) dX11_isHalf_3 ⟨Nat.zero_le _, Nat.zero_le _⟩ (fun H locs hH => ?_)
  have hH : gm_H (dC, dI) A s (wX11_isHalf cI q q_tongue q_refused q_fresh q_kept q_isKept q_text q_said q_talk m_thrown m_size m_at m_start m_token m_value m_faultAt m_allowed m_firstPair m_secondPair m_above m_below m_tongue) H locs := hH
  refine lv_if_ne (tgt := 33) hx hb dX11_isHalf_6 (by decide) (fun hc2 => ?_) (fun hc2 => ?_)
  · replace h := gm_neg hc2 h
    exact tX11_isHalf_b33 C0  h hH (lv_sub hl [] rfl)
  · replace h := gm_pos hc2 h
    refine lv_aload_n hx hb dX11_isHalf_9 rfl (lv_at hl 0 rfl) ?_
    refine gm_get (ci := 11) C0 hH inX11_isHalf_X11 0 2 1 rfl rfl (by decide) rfl rfl dX11_isHalf_10 ?_
    refine lv_bipush (v := 45) hx hb dX11_isHalf_13 (by decide) ?_
    refine lv_aload_n hx hb dX11_isHalf_15 rfl (lv_at hl 0 rfl) ?_
    refine lv_iload_n hx hb dX11_isHalf_16 rfl (lv_at hl 1 rfl) ?_
    obtain ⟨o3, ho3, h⟩ := gm_bind_e h
    refine gm_callV (As := [.int x1]) (rest := [.int 45, .ref q_tongue]) (n := 1) (ci := 11) (q0 := 0) C0 hH (mX11_ending l dC dI cI q q_tongue q_refused q_fresh q_kept q_isKept q_text q_said q_talk m_thrown m_size m_at m_start m_token m_value m_faultAt m_allowed m_firstPair m_secondPair m_above m_below m_tongue x1 ho3) gX11_isHalf_X11_ending rfl (by decide +kernel) ⟨rfl, rfl, Nat.le_of_ble_eq_true rfl, Nat.le_of_ble_eq_true rfl⟩ gm_T_ok (fun _ => trivial) [0, 1] rfl rfl rfl [0] rfl rfl rfl rfl hl.1 rfl (Nat.le_of_ble_eq_true rfl) dX11_isHalf_17 ⟨Nat.zero_le _, Nat.zero_le _⟩ (fun H locs hH => ?_)
    have hH : gm_H (dC, dI) A s (wX11_isHalf cI q q_tongue q_refused q_fresh q_kept q_isKept q_text q_said q_talk m_thrown m_size m_at m_start m_token m_value m_faultAt m_allowed m_firstPair m_secondPair m_above m_below m_tongue) H locs := hH
    refine lv_iadd hx hb dX11_isHalf_20 ?_
    obtain ⟨hi4, h⟩ := gm_chk_e h
    refine gm_iald C0 hH hi4 1 0 rfl rfl dX11_isHalf_21 ?_
    refine lv_aload_n hx hb dX11_isHalf_22 rfl (lv_at hl 0 rfl) ?_
    refine lv_iload_n hx hb dX11_isHalf_23 rfl (lv_at hl 2 rfl) ?_
    obtain ⟨o5, ho5, h⟩ := gm_bind_e h
    refine gm_callV (As := [.int x2]) (rest := [.int (m_tongue (Int32.toNatClampNeg ((45 + o3))))]) (n := 1) (ci := 11) (q0 := 0) C0 hH (mX11_ending l dC dI cI q q_tongue q_refused q_fresh q_kept q_isKept q_text q_said q_talk m_thrown m_size m_at m_start m_token m_value m_faultAt m_allowed m_firstPair m_secondPair m_above m_below m_tongue x2 ho5) gX11_isHalf_X11_ending rfl (by decide +kernel) ⟨rfl, rfl, Nat.le_of_ble_eq_true rfl, Nat.le_of_ble_eq_true rfl⟩ gm_T_ok (fun _ => trivial) [0, 1] rfl rfl rfl [0] rfl rfl rfl rfl hl.1 rfl (Nat.le_of_ble_eq_true rfl) dX11_isHalf_24 ⟨Nat.zero_le _, Nat.zero_le _⟩ (fun H locs hH => ?_)
    have hH : gm_H (dC, dI) A s (wX11_isHalf cI q q_tongue q_refused q_fresh q_kept q_isKept q_text q_said q_talk m_thrown m_size m_at m_start m_token m_value m_faultAt m_allowed m_firstPair m_secondPair m_above m_below m_tongue) H locs := hH
    obtain ⟨o6, ho6, h⟩ := gm_bind_e h
    refine gm_callS (As := [.int (m_tongue (Int32.toNatClampNeg ((45 + o3)))), .int o5]) (rest := []) (n := 2) C0 hH (mX11_has l dC dI    ((m_tongue (Int32.toNatClampNeg ((45 + o3))))) o5 ho6) gX11_isHalf_X11_has rfl (by decide +kernel) ⟨rfl, rfl, Nat.le_of_ble_eq_true rfl, Nat.le_of_ble_eq_true rfl⟩ gm_T_ok (fun _ => trivial) [] rfl rfl rfl [] rfl rfl hl.1 rfl (Nat.le_of_ble_eq_true rfl) dX11_isHalf_27 ⟨Nat.zero_le _, Nat.zero_le _⟩ (fun H locs hH => ?_)
    have hH : gm_H (dC, dI) A s (wX11_isHalf cI q q_tongue q_refused q_fresh q_kept q_isKept q_text q_said q_talk m_thrown m_size m_at m_start m_token m_value m_faultAt m_allowed m_firstPair m_secondPair m_above m_below m_tongue) H locs := hH
    refine lv_if_eq (tgt := 37) hx hb dX11_isHalf_30 (by decide) (fun hc7 => ?_) (fun hc7 => ?_)
    · replace h := gm_pos hc7 h
      refine lv_iconst (v := 0) hx hb dX11_isHalf_37 (by decide) ?_
      cases h
      exact gm_zret C0 hH (by decide) dX11_isHalf_38
    · replace h := gm_neg hc7 h
      exact tX11_isHalf_b33 C0  h hH (lv_sub hl [] rfl)

/-! X11_isEcho -/
abbrev wX11_isEcho (cI : ClassId) (q q_tongue q_refused q_fresh q_kept q_isKept q_text q_said q_talk : Nat) (m_thrown : Int32) (m_size : Int32) (m_at : Int32) (m_start : Int32) (m_token : Int32) (m_value : Int64) (m_faultAt : Int32) (m_allowed : Int32) (m_firstPair : Int32) (m_secondPair : Int32) (m_above : Int64) (m_below : Int64) (m_tongue : Nat → Int32) : va_W := [(q, .inr (11, [.int m_thrown, .ref q_refused, .ref q_tongue, .ref q_fresh, .ref q_kept, .ref q_isKept, .ref q_text, .int m_size, .int m_at, .int m_start, .int m_token, .long m_value, .int m_faultAt, .ref q_said, .ref q_talk, .int m_allowed, .int m_firstPair, .int m_secondPair, .long m_above, .long m_below])), (q_tongue, .inl (cI, 73, .inl m_tongue))]
abbrev rX11_isEcho : Room := { frames := 2, cells := 0, slots := 0, locals := 43 }
def fX11_isEcho_b14 (N : Nat)   : Option (Int32) := some (1)
def fX11_isEcho (N : Nat) (m_tongue : Nat → Int32) (x1 : Int32) (x2 : Int32) : Option (Int32) := gm_bind (fX11_rhymes N m_tongue x1 x2) (fun o1 => (if o1 = 0 then (if x1 = x2 then (fX11_isEcho_b14 N  ) else some (0)) else (fX11_isEcho_b14 N  )))
set_option maxRecDepth 20000 in
theorem inX11_isEcho_X11 : ∀ w ∈ u_ws RX11 TX11 20, w ∈ wsX11_isEcho := fun w h => by
  obtain ⟨k, hk, rfl⟩ := List.mem_map.mp h
  have hk2 := List.mem_range.mp hk
  exact List.mem_of_getElem? (i := 11 + k) (by rcases (show k = 0 ∨ k = 1 ∨ k = 2 ∨ k = 3 ∨ k = 4 ∨ k = 5 ∨ k = 6 ∨ k = 7 ∨ k = 8 ∨ k = 9 ∨ k = 10 ∨ k = 11 ∨ k = 12 ∨ k = 13 ∨ k = 14 ∨ k = 15 ∨ k = 16 ∨ k = 17 ∨ k = 18 ∨ k = 19 by omega) with rfl | rfl | rfl | rfl | rfl | rfl | rfl | rfl | rfl | rfl | rfl | rfl | rfl | rfl | rfl | rfl | rfl | rfl | rfl | rfl <;> rfl)
set_option maxRecDepth 100000 in
set_option maxHeartbeats 4000000 in
theorem tX11_isEcho_b14 {p : Program} {l : Launch} {e : Env} {s : State} {m : MethodId} {args : Array Value} {below : List Frame} {meth : Method} {c : Code} {A : Nat → Prop} {dC : Nat → ClassId} {dI : Nat → Nat → Nat} {cI : ClassId} {q q_tongue q_refused q_fresh q_kept q_isKept q_text q_said q_talk : Nat} {m_thrown : Int32} {m_size : Int32} {m_at : Int32} {m_start : Int32} {m_token : Int32} {m_value : Int64} {m_faultAt : Int32} {m_allowed : Int32} {m_firstPair : Int32} {m_secondPair : Int32} {m_above : Int64} {m_below : Int64} {m_tongue : Nat → Int32} (C0 : gm_C p s m args meth c (dC, dI) [(cI, .int)] A gm_T RX11 cX11_isEcho 3 (some .boolean) wsX11_isEcho) {N : Nat} {out : Int32}   {H : Heap} {locs : List Loc} {ls : Array Slot} (h : fX11_isEcho_b14 N   = some out) (hH : gm_H (dC, dI) A s (wX11_isEcho cI q q_tongue q_refused q_fresh q_kept q_isKept q_text q_said q_talk m_thrown m_size m_at m_start m_token m_value m_faultAt m_allowed m_firstPair m_secondPair m_above m_below m_tongue) H locs) (hl : lv_has ls 3 []) : W p l e rX11_isEcho s m args below meth c H locs 0 0 (MQ below (gm_Q (dC, dI) [(cI, .int)] A (some (.int out)) (wX11_isEcho cI q q_tongue q_refused q_fresh q_kept q_isKept q_text q_said q_talk m_thrown m_size m_at m_start m_token m_value m_faultAt m_allowed m_firstPair m_secondPair m_above m_below m_tongue)) args s 0 0 A) (F0 m 14 ls []) := by
  obtain ⟨hx, hb, hml, hr, hown, hts, hA, hK, hX, hlocks⟩ := id C0
  unfold fX11_isEcho_b14 at h
  refine lv_iconst (v := 1) hx hb dX11_isEcho_14 (by decide) ?_
  refine lv_goto (tgt := 19) hx hb dX11_isEcho_15 (by decide) ?_
  cases h
  exact gm_zret C0 hH (by decide) dX11_isEcho_19
set_option maxRecDepth 100000 in
set_option maxHeartbeats 4000000 in
theorem mX11_isEcho (l : Launch) (dC : Nat → ClassId) (dI : Nat → Nat → Nat) (cI : ClassId) (q q_tongue q_refused q_fresh q_kept q_isKept q_text q_said q_talk : Nat) (m_thrown : Int32) (m_size : Int32) (m_at : Int32) (m_start : Int32) (m_token : Int32) (m_value : Int64) (m_faultAt : Int32) (m_allowed : Int32) (m_firstPair : Int32) (m_secondPair : Int32) (m_above : Int64) (m_below : Int64) (m_tongue : Nat → Int32) (x1 : Int32) (x2 : Int32) {N : Nat} {out : Int32} (h : fX11_isEcho N m_tongue x1 x2 = some out) : gm_Met l yX11_isEcho wsX11_isEcho rX11_isEcho (dC, dI) [(cI, .int)] gm_T [.ref q, .int x1, .int x2] (wX11_isEcho cI q q_tongue q_refused q_fresh q_kept q_isKept q_text q_said q_talk m_thrown m_size m_at m_start m_token m_value m_faultAt m_allowed m_firstPair m_secondPair m_above m_below m_tongue) (some (.int out)) (wX11_isEcho cI q q_tongue q_refused q_fresh q_kept q_isKept q_text q_said q_talk m_thrown m_size m_at m_start m_token m_value m_faultAt m_allowed m_firstPair m_secondPair m_above m_below m_tongue) := by
  refine gm_ofW (cc := cX11_isEcho) (maxL := 3) (ret := (some .boolean)) (by decide +kernel) rfl (Nat.le_of_ble_eq_true rfl) ?_
  intro p e s m below meth c A C0 hH ls hl
  generalize ([.ref q, .int x1, .int x2] : List Value).toArray = args at C0 ⊢
  have hl : lv_has ls 3 [(0, .ref q), (1, .int x1), (2, .int x2)] := hl
  generalize s.heap = H at hH ⊢
  generalize ([] : List Loc) = locs at hH ⊢
  obtain ⟨hx, hb, hml, hr, hown, hts, hA, hK, hX, hlocks⟩ := id C0
  unfold fX11_isEcho at h
  refine lv_aload_n hx hb dX11_isEcho_0 rfl (lv_at hl 0 rfl) ?_
  refine lv_iload_n hx hb dX11_isEcho_1 rfl (lv_at hl 1 rfl) ?_
  refine lv_iload_n hx hb dX11_isEcho_2 rfl (lv_at hl 2 rfl) ?_
  obtain ⟨o1, ho1, h⟩ := gm_bind_e h
  refine gm_callV (As := [.int x1, .int x2]) (rest := []) (n := 2) (ci := 11) (q0 := 0) C0 hH (mX11_rhymes l dC dI cI q q_tongue q_refused q_fresh q_kept q_isKept q_text q_said q_talk m_thrown m_size m_at m_start m_token m_value m_faultAt m_allowed m_firstPair m_secondPair m_above m_below m_tongue x1 x2 ho1) gX11_isEcho_X11_rhymes rfl (by decide +kernel) ⟨rfl, rfl, Nat.le_of_ble_eq_true rfl, Nat.le_of_ble_eq_true rfl⟩ gm_T_ok (fun _ => trivial) [0, 1] rfl rfl rfl [0] rfl rfl rfl rfl hl.1 rfl (Nat.le_of_ble_eq_true rfl) dX11_isEcho_3 ⟨Nat.zero_le _, Nat.zero_le _⟩ (fun H locs hH => ?_)
  have hH : gm_H (dC, dI) A s (wX11_isEcho cI q q_tongue q_refused q_fresh q_kept q_isKept q_text q_said q_talk m_thrown m_size m_at m_start m_token m_value m_faultAt m_allowed m_firstPair m_secondPair m_above m_below m_tongue) H locs := hH
  refine lv_if_ne (tgt := 14) hx hb dX11_isEcho_6 (by decide) (fun hc2 => ?_) (fun hc2 => ?_)
  · replace h := gm_neg hc2 h
    exact tX11_isEcho_b14 C0  h hH (lv_sub hl [] rfl)
  · replace h := gm_pos hc2 h
    refine lv_iload_n hx hb dX11_isEcho_9 rfl (lv_at hl 1 rfl) ?_
    refine lv_iload_n hx hb dX11_isEcho_10 rfl (lv_at hl 2 rfl) ?_
    refine lv_icmp_ne (tgt := 18) hx hb dX11_isEcho_11 (by decide) (fun hc3 => ?_) (fun hc3 => ?_)
    · replace h := gm_neg hc3 h
      refine lv_iconst (v := 0) hx hb dX11_isEcho_18 (by decide) ?_
      cases h
      exact gm_zret C0 hH (by decide) dX11_isEcho_19
    · replace h := gm_pos hc3 h
      exact tX11_isEcho_b14 C0  h hH (lv_sub hl [] rfl)

/-! X11_chimes -/
abbrev wX11_chimes (cI : ClassId) (q q_tongue q_refused q_fresh q_kept q_isKept q_text q_said q_talk : Nat) (m_thrown : Int32) (m_size : Int32) (m_at : Int32) (m_start : Int32) (m_token : Int32) (m_value : Int64) (m_faultAt : Int32) (m_allowed : Int32) (m_firstPair : Int32) (m_secondPair : Int32) (m_above : Int64) (m_below : Int64) (m_tongue : Nat → Int32) : va_W := [(q, .inr (11, [.int m_thrown, .ref q_refused, .ref q_tongue, .ref q_fresh, .ref q_kept, .ref q_isKept, .ref q_text, .int m_size, .int m_at, .int m_start, .int m_token, .long m_value, .int m_faultAt, .ref q_said, .ref q_talk, .int m_allowed, .int m_firstPair, .int m_secondPair, .long m_above, .long m_below])), (q_tongue, .inl (cI, 73, .inl m_tongue))]
abbrev rX11_chimes : Room := { frames := 3, cells := 0, slots := 0, locals := 65 }
def fX11_chimes_b131 (N : Nat)   : Option (Int32) := some (1)
def fX11_chimes (N : Nat) (m_tongue : Nat → Int32) (x1 : Int32) (x2 : Int32) (x3 : Int32) (x4 : Int32) : Option (Int32) := (if x1 = 0 then gm_bind (fX11_rhymes N m_tongue x3 x4) (fun o2 => gm_bl o2 (some (o2))) else (if x1 = 1 then gm_bind (fX11_isHalf N m_tongue x3 x4) (fun o4 => gm_bl o4 (some (o4))) else (if x1 = 2 then gm_bind (fX11_isEcho N m_tongue x3 x4) (fun o6 => gm_bl o6 (some (o6))) else (if x1 = 3 then gm_bind (fX11_isEcho N m_tongue x3 x4) (fun o8 => (if o8 = 0 then some (0) else (if x3 < x4 then some (0) else some (1)))) else (if x1 = 4 then gm_bind (fX11_isHalf N m_tongue x3 x4) (fun o11 => (if o11 = 0 then some (0) else gm_bind (fX11_meaning N m_tongue x3) (fun o13 => gm_bind (fX11_meaning N m_tongue x4) (fun o14 => (if o13 = o14 then some (0) else some (1)))))) else gm_bind (fX11_isHalf N m_tongue x3 x4) (fun o16 => (if o16 = 0 then gm_bind (fX11_meaning N m_tongue x3) (fun o18 => (if o18 = x2 then (fX11_chimes_b131 N  ) else some (0))) else (fX11_chimes_b131 N  ))))))))
set_option maxRecDepth 20000 in
theorem inX11_chimes_X11 : ∀ w ∈ u_ws RX11 TX11 20, w ∈ wsX11_chimes := fun w h => by
  obtain ⟨k, hk, rfl⟩ := List.mem_map.mp h
  have hk2 := List.mem_range.mp hk
  exact List.mem_of_getElem? (i := 26 + k) (by rcases (show k = 0 ∨ k = 1 ∨ k = 2 ∨ k = 3 ∨ k = 4 ∨ k = 5 ∨ k = 6 ∨ k = 7 ∨ k = 8 ∨ k = 9 ∨ k = 10 ∨ k = 11 ∨ k = 12 ∨ k = 13 ∨ k = 14 ∨ k = 15 ∨ k = 16 ∨ k = 17 ∨ k = 18 ∨ k = 19 by omega) with rfl | rfl | rfl | rfl | rfl | rfl | rfl | rfl | rfl | rfl | rfl | rfl | rfl | rfl | rfl | rfl | rfl | rfl | rfl | rfl <;> rfl)
set_option maxRecDepth 100000 in
set_option maxHeartbeats 4000000 in
theorem tX11_chimes_b131 {p : Program} {l : Launch} {e : Env} {s : State} {m : MethodId} {args : Array Value} {below : List Frame} {meth : Method} {c : Code} {A : Nat → Prop} {dC : Nat → ClassId} {dI : Nat → Nat → Nat} {cI : ClassId} {q q_tongue q_refused q_fresh q_kept q_isKept q_text q_said q_talk : Nat} {m_thrown : Int32} {m_size : Int32} {m_at : Int32} {m_start : Int32} {m_token : Int32} {m_value : Int64} {m_faultAt : Int32} {m_allowed : Int32} {m_firstPair : Int32} {m_secondPair : Int32} {m_above : Int64} {m_below : Int64} {m_tongue : Nat → Int32} (C0 : gm_C p s m args meth c (dC, dI) [(cI, .int)] A gm_T RX11 cX11_chimes 5 (some .boolean) wsX11_chimes) {N : Nat} {out : Int32}   {H : Heap} {locs : List Loc} {ls : Array Slot} (h : fX11_chimes_b131 N   = some out) (hH : gm_H (dC, dI) A s (wX11_chimes cI q q_tongue q_refused q_fresh q_kept q_isKept q_text q_said q_talk m_thrown m_size m_at m_start m_token m_value m_faultAt m_allowed m_firstPair m_secondPair m_above m_below m_tongue) H locs) (hl : lv_has ls 5 []) : W p l e rX11_chimes s m args below meth c H locs 0 0 (MQ below (gm_Q (dC, dI) [(cI, .int)] A (some (.int out)) (wX11_chimes cI q q_tongue q_refused q_fresh q_kept q_isKept q_text q_said q_talk m_thrown m_size m_at m_start m_token m_value m_faultAt m_allowed m_firstPair m_secondPair m_above m_below m_tongue)) args s 0 0 A) (F0 m 131 ls []) := by
  obtain ⟨hx, hb, hml, hr, hown, hts, hA, hK, hX, hlocks⟩ := id C0
  unfold fX11_chimes_b131 at h
  refine lv_iconst (v := 1) hx hb dX11_chimes_131 (by decide) ?_
  refine lv_goto (tgt := 136) hx hb dX11_chimes_132 (by decide) ?_
  cases h
  exact gm_zret C0 hH (by decide) dX11_chimes_136
set_option maxRecDepth 100000 in
set_option maxHeartbeats 4000000 in
theorem mX11_chimes (l : Launch) (dC : Nat → ClassId) (dI : Nat → Nat → Nat) (cI : ClassId) (q q_tongue q_refused q_fresh q_kept q_isKept q_text q_said q_talk : Nat) (m_thrown : Int32) (m_size : Int32) (m_at : Int32) (m_start : Int32) (m_token : Int32) (m_value : Int64) (m_faultAt : Int32) (m_allowed : Int32) (m_firstPair : Int32) (m_secondPair : Int32) (m_above : Int64) (m_below : Int64) (m_tongue : Nat → Int32) (x1 : Int32) (x2 : Int32) (x3 : Int32) (x4 : Int32) {N : Nat} {out : Int32} (h : fX11_chimes N m_tongue x1 x2 x3 x4 = some out) : gm_Met l yX11_chimes wsX11_chimes rX11_chimes (dC, dI) [(cI, .int)] gm_T [.ref q, .int x1, .int x2, .int x3, .int x4] (wX11_chimes cI q q_tongue q_refused q_fresh q_kept q_isKept q_text q_said q_talk m_thrown m_size m_at m_start m_token m_value m_faultAt m_allowed m_firstPair m_secondPair m_above m_below m_tongue) (some (.int out)) (wX11_chimes cI q q_tongue q_refused q_fresh q_kept q_isKept q_text q_said q_talk m_thrown m_size m_at m_start m_token m_value m_faultAt m_allowed m_firstPair m_secondPair m_above m_below m_tongue) := by
  refine gm_ofW (cc := cX11_chimes) (maxL := 5) (ret := (some .boolean)) (by decide +kernel) rfl (Nat.le_of_ble_eq_true rfl) ?_
  intro p e s m below meth c A C0 hH ls hl
  generalize ([.ref q, .int x1, .int x2, .int x3, .int x4] : List Value).toArray = args at C0 ⊢
  have hl : lv_has ls 5 [(0, .ref q), (1, .int x1), (2, .int x2), (3, .int x3), (4, .int x4)] := hl
  generalize s.heap = H at hH ⊢
  generalize ([] : List Loc) = locs at hH ⊢
  obtain ⟨hx, hb, hml, hr, hown, hts, hA, hK, hX, hlocks⟩ := id C0
  unfold fX11_chimes at h
  refine lv_iload_n hx hb dX11_chimes_0 rfl (lv_at hl 1 rfl) ?_
  by_cases hs1_0 : x1 = 0
  · replace h := gm_pos hs1_0 h
    refine lv_tableIn (tgt := 36) (off := 35) hx hb dX11_chimes_1 (by rw [hs1_0]; decide) (by rw [hs1_0]; decide) (by rw [hs1_0]; decide) (by decide) ?_
    refine lv_aload_n hx hb dX11_chimes_36 rfl (lv_at hl 0 rfl) ?_
    refine lv_iload_n hx hb dX11_chimes_37 rfl (lv_at hl 3 rfl) ?_
    refine lv_iload hx hb dX11_chimes_38 (lv_at hl 4 rfl) ?_
    obtain ⟨o2, ho2, h⟩ := gm_bind_e h
    refine gm_callV (As := [.int x3, .int x4]) (rest := []) (n := 2) (ci := 11) (q0 := 0) C0 hH (mX11_rhymes l dC dI cI q q_tongue q_refused q_fresh q_kept q_isKept q_text q_said q_talk m_thrown m_size m_at m_start m_token m_value m_faultAt m_allowed m_firstPair m_secondPair m_above m_below m_tongue x3 x4 ho2) gX11_chimes_X11_rhymes rfl (by decide +kernel) ⟨rfl, rfl, Nat.le_of_ble_eq_true rfl, Nat.le_of_ble_eq_true rfl⟩ gm_T_ok (fun _ => trivial) [0, 1] rfl rfl rfl [0] rfl rfl rfl rfl hl.1 rfl (Nat.le_of_ble_eq_true rfl) dX11_chimes_40 ⟨Nat.zero_le _, Nat.zero_le _⟩ (fun H locs hH => ?_)
    have hH : gm_H (dC, dI) A s (wX11_chimes cI q q_tongue q_refused q_fresh q_kept q_isKept q_text q_said q_talk m_thrown m_size m_at m_start m_token m_value m_faultAt m_allowed m_firstPair m_secondPair m_above m_below m_tongue) H locs := hH
    obtain ⟨hn3, h⟩ := gm_bl_e h
    cases h
    exact gm_zret C0 hH hn3 dX11_chimes_43
  · replace h := gm_neg hs1_0 h
    by_cases hs1_1 : x1 = 1
    · replace h := gm_pos hs1_1 h
      refine lv_tableIn (tgt := 44) (off := 43) hx hb dX11_chimes_1 (by rw [hs1_1]; decide) (by rw [hs1_1]; decide) (by rw [hs1_1]; decide) (by decide) ?_
      refine lv_aload_n hx hb dX11_chimes_44 rfl (lv_at hl 0 rfl) ?_
      refine lv_iload_n hx hb dX11_chimes_45 rfl (lv_at hl 3 rfl) ?_
      refine lv_iload hx hb dX11_chimes_46 (lv_at hl 4 rfl) ?_
      obtain ⟨o4, ho4, h⟩ := gm_bind_e h
      refine gm_callV (As := [.int x3, .int x4]) (rest := []) (n := 2) (ci := 11) (q0 := 0) C0 hH (mX11_isHalf l dC dI cI q q_tongue q_refused q_fresh q_kept q_isKept q_text q_said q_talk m_thrown m_size m_at m_start m_token m_value m_faultAt m_allowed m_firstPair m_secondPair m_above m_below m_tongue x3 x4 ho4) gX11_chimes_X11_isHalf rfl (by decide +kernel) ⟨rfl, rfl, Nat.le_of_ble_eq_true rfl, Nat.le_of_ble_eq_true rfl⟩ gm_T_ok (fun _ => trivial) [0, 1] rfl rfl rfl [0] rfl rfl rfl rfl hl.1 rfl (Nat.le_of_ble_eq_true rfl) dX11_chimes_48 ⟨Nat.zero_le _, Nat.zero_le _⟩ (fun H locs hH => ?_)
      have hH : gm_H (dC, dI) A s (wX11_chimes cI q q_tongue q_refused q_fresh q_kept q_isKept q_text q_said q_talk m_thrown m_size m_at m_start m_token m_value m_faultAt m_allowed m_firstPair m_secondPair m_above m_below m_tongue) H locs := hH
      obtain ⟨hn5, h⟩ := gm_bl_e h
      cases h
      exact gm_zret C0 hH hn5 dX11_chimes_51
    · replace h := gm_neg hs1_1 h
      by_cases hs1_2 : x1 = 2
      · replace h := gm_pos hs1_2 h
        refine lv_tableIn (tgt := 52) (off := 51) hx hb dX11_chimes_1 (by rw [hs1_2]; decide) (by rw [hs1_2]; decide) (by rw [hs1_2]; decide) (by decide) ?_
        refine lv_aload_n hx hb dX11_chimes_52 rfl (lv_at hl 0 rfl) ?_
        refine lv_iload_n hx hb dX11_chimes_53 rfl (lv_at hl 3 rfl) ?_
        refine lv_iload hx hb dX11_chimes_54 (lv_at hl 4 rfl) ?_
        obtain ⟨o6, ho6, h⟩ := gm_bind_e h
        refine gm_callV (As := [.int x3, .int x4]) (rest := []) (n := 2) (ci := 11) (q0 := 0) C0 hH (mX11_isEcho l dC dI cI q q_tongue q_refused q_fresh q_kept q_isKept q_text q_said q_talk m_thrown m_size m_at m_start m_token m_value m_faultAt m_allowed m_firstPair m_secondPair m_above m_below m_tongue x3 x4 ho6) gX11_chimes_X11_isEcho rfl (by decide +kernel) ⟨rfl, rfl, Nat.le_of_ble_eq_true rfl, Nat.le_of_ble_eq_true rfl⟩ gm_T_ok (fun _ => trivial) [0, 1] rfl rfl rfl [0] rfl rfl rfl rfl hl.1 rfl (Nat.le_of_ble_eq_true rfl) dX11_chimes_56 ⟨Nat.zero_le _, Nat.zero_le _⟩ (fun H locs hH => ?_)
        have hH : gm_H (dC, dI) A s (wX11_chimes cI q q_tongue q_refused q_fresh q_kept q_isKept q_text q_said q_talk m_thrown m_size m_at m_start m_token m_value m_faultAt m_allowed m_firstPair m_secondPair m_above m_below m_tongue) H locs := hH
        obtain ⟨hn7, h⟩ := gm_bl_e h
        cases h
        exact gm_zret C0 hH hn7 dX11_chimes_59
      · replace h := gm_neg hs1_2 h
        by_cases hs1_3 : x1 = 3
        · replace h := gm_pos hs1_3 h
          refine lv_tableIn (tgt := 60) (off := 59) hx hb dX11_chimes_1 (by rw [hs1_3]; decide) (by rw [hs1_3]; decide) (by rw [hs1_3]; decide) (by decide) ?_
          refine lv_aload_n hx hb dX11_chimes_60 rfl (lv_at hl 0 rfl) ?_
          refine lv_iload_n hx hb dX11_chimes_61 rfl (lv_at hl 3 rfl) ?_
          refine lv_iload hx hb dX11_chimes_62 (lv_at hl 4 rfl) ?_
          obtain ⟨o8, ho8, h⟩ := gm_bind_e h
          refine gm_callV (As := [.int x3, .int x4]) (rest := []) (n := 2) (ci := 11) (q0 := 0) C0 hH (mX11_isEcho l dC dI cI q q_tongue q_refused q_fresh q_kept q_isKept q_text q_said q_talk m_thrown m_size m_at m_start m_token m_value m_faultAt m_allowed m_firstPair m_secondPair m_above m_below m_tongue x3 x4 ho8) gX11_chimes_X11_isEcho rfl (by decide +kernel) ⟨rfl, rfl, Nat.le_of_ble_eq_true rfl, Nat.le_of_ble_eq_true rfl⟩ gm_T_ok (fun _ => trivial) [0, 1] rfl rfl rfl [0] rfl rfl rfl rfl hl.1 rfl (Nat.le_of_ble_eq_true rfl) dX11_chimes_64 ⟨Nat.zero_le _, Nat.zero_le _⟩ (fun H locs hH => ?_)
          have hH : gm_H (dC, dI) A s (wX11_chimes cI q q_tongue q_refused q_fresh q_kept q_isKept q_text q_said q_talk m_thrown m_size m_at m_start m_token m_value m_faultAt m_allowed m_firstPair m_secondPair m_above m_below m_tongue) H locs := hH
          refine lv_if_eq (tgt := 80) hx hb dX11_chimes_67 (by decide) (fun hc9 => ?_) (fun hc9 => ?_)
          · replace h := gm_pos hc9 h
            refine lv_iconst (v := 0) hx hb dX11_chimes_80 (by decide) ?_
            cases h
            exact gm_zret C0 hH (by decide) dX11_chimes_81
          · replace h := gm_neg hc9 h
            refine lv_iload_n hx hb dX11_chimes_70 rfl (lv_at hl 3 rfl) ?_
            refine lv_iload hx hb dX11_chimes_71 (lv_at hl 4 rfl) ?_
            refine lv_icmp_lt (tgt := 80) hx hb dX11_chimes_73 (by decide) (fun hc10 => ?_) (fun hc10 => ?_)
            · replace h := gm_pos hc10 h
              refine lv_iconst (v := 0) hx hb dX11_chimes_80 (by decide) ?_
              cases h
              exact gm_zret C0 hH (by decide) dX11_chimes_81
            · replace h := gm_neg hc10 h
              refine lv_iconst (v := 1) hx hb dX11_chimes_76 (by decide) ?_
              refine lv_goto (tgt := 81) hx hb dX11_chimes_77 (by decide) ?_
              cases h
              exact gm_zret C0 hH (by decide) dX11_chimes_81
        · replace h := gm_neg hs1_3 h
          by_cases hs1_4 : x1 = 4
          · replace h := gm_pos hs1_4 h
            refine lv_tableIn (tgt := 82) (off := 81) hx hb dX11_chimes_1 (by rw [hs1_4]; decide) (by rw [hs1_4]; decide) (by rw [hs1_4]; decide) (by decide) ?_
            refine lv_aload_n hx hb dX11_chimes_82 rfl (lv_at hl 0 rfl) ?_
            refine lv_iload_n hx hb dX11_chimes_83 rfl (lv_at hl 3 rfl) ?_
            refine lv_iload hx hb dX11_chimes_84 (lv_at hl 4 rfl) ?_
            obtain ⟨o11, ho11, h⟩ := gm_bind_e h
            refine gm_callV (As := [.int x3, .int x4]) (rest := []) (n := 2) (ci := 11) (q0 := 0) C0 hH (mX11_isHalf l dC dI cI q q_tongue q_refused q_fresh q_kept q_isKept q_text q_said q_talk m_thrown m_size m_at m_start m_token m_value m_faultAt m_allowed m_firstPair m_secondPair m_above m_below m_tongue x3 x4 ho11) gX11_chimes_X11_isHalf rfl (by decide +kernel) ⟨rfl, rfl, Nat.le_of_ble_eq_true rfl, Nat.le_of_ble_eq_true rfl⟩ gm_T_ok (fun _ => trivial) [0, 1] rfl rfl rfl [0] rfl rfl rfl rfl hl.1 rfl (Nat.le_of_ble_eq_true rfl) dX11_chimes_86 ⟨Nat.zero_le _, Nat.zero_le _⟩ (fun H locs hH => ?_)
            have hH : gm_H (dC, dI) A s (wX11_chimes cI q q_tongue q_refused q_fresh q_kept q_isKept q_text q_said q_talk m_thrown m_size m_at m_start m_token m_value m_faultAt m_allowed m_firstPair m_secondPair m_above m_below m_tongue) H locs := hH
            refine lv_if_eq (tgt := 110) hx hb dX11_chimes_89 (by decide) (fun hc12 => ?_) (fun hc12 => ?_)
            · replace h := gm_pos hc12 h
              refine lv_iconst (v := 0) hx hb dX11_chimes_110 (by decide) ?_
              cases h
              exact gm_zret C0 hH (by decide) dX11_chimes_111
            · replace h := gm_neg hc12 h
              refine lv_aload_n hx hb dX11_chimes_92 rfl (lv_at hl 0 rfl) ?_
              refine lv_iload_n hx hb dX11_chimes_93 rfl (lv_at hl 3 rfl) ?_
              obtain ⟨o13, ho13, h⟩ := gm_bind_e h
              refine gm_callV (As := [.int x3]) (rest := []) (n := 1) (ci := 11) (q0 := 0) C0 hH (mX11_meaning l dC dI cI q q_tongue q_refused q_fresh q_kept q_isKept q_text q_said q_talk m_thrown m_size m_at m_start m_token m_value m_faultAt m_allowed m_firstPair m_secondPair m_above m_below m_tongue x3 ho13) gX11_chimes_X11_meaning rfl (by decide +kernel) ⟨rfl, rfl, Nat.le_of_ble_eq_true rfl, Nat.le_of_ble_eq_true rfl⟩ gm_T_ok (fun _ => trivial) [0, 1] rfl rfl rfl [0] rfl rfl rfl rfl hl.1 rfl (Nat.le_of_ble_eq_true rfl) dX11_chimes_94 ⟨Nat.zero_le _, Nat.zero_le _⟩ (fun H locs hH => ?_)
              have hH : gm_H (dC, dI) A s (wX11_chimes cI q q_tongue q_refused q_fresh q_kept q_isKept q_text q_said q_talk m_thrown m_size m_at m_start m_token m_value m_faultAt m_allowed m_firstPair m_secondPair m_above m_below m_tongue) H locs := hH
              refine lv_aload_n hx hb dX11_chimes_97 rfl (lv_at hl 0 rfl) ?_
              refine lv_iload hx hb dX11_chimes_98 (lv_at hl 4 rfl) ?_
              obtain ⟨o14, ho14, h⟩ := gm_bind_e h
              refine gm_callV (As := [.int x4]) (rest := [.int o13]) (n := 1) (ci := 11) (q0 := 0) C0 hH (mX11_meaning l dC dI cI q q_tongue q_refused q_fresh q_kept q_isKept q_text q_said q_talk m_thrown m_size m_at m_start m_token m_value m_faultAt m_allowed m_firstPair m_secondPair m_above m_below m_tongue x4 ho14) gX11_chimes_X11_meaning rfl (by decide +kernel) ⟨rfl, rfl, Nat.le_of_ble_eq_true rfl, Nat.le_of_ble_eq_true rfl⟩ gm_T_ok (fun _ => trivial) [0, 1] rfl rfl rfl [0] rfl rfl rfl rfl hl.1 rfl (Nat.le_of_ble_eq_true rfl) dX11_chimes_100 ⟨Nat.zero_le _, Nat.zero_le _⟩ (fun H locs hH => ?_)
              have hH : gm_H (dC, dI) A s (wX11_chimes cI q q_tongue q_refused q_fresh q_kept q_isKept q_text q_said q_talk m_thrown m_size m_at m_start m_token m_value m_faultAt m_allowed m_firstPair m_secondPair m_above m_below m_tongue) H locs := hH
              refine lv_icmp_eq (tgt := 110) hx hb dX11_chimes_103 (by decide) (fun hc15 => ?_) (fun hc15 => ?_)
              · replace h := gm_pos hc15 h
                refine lv_iconst (v := 0) hx hb dX11_chimes_110 (by decide) ?_
                cases h
                exact gm_zret C0 hH (by decide) dX11_chimes_111
              · replace h := gm_neg hc15 h
                refine lv_iconst (v := 1) hx hb dX11_chimes_106 (by decide) ?_
                refine lv_goto (tgt := 111) hx hb dX11_chimes_107 (by decide) ?_
                cases h
                exact gm_zret C0 hH (by decide) dX11_chimes_111
          · replace h := gm_neg hs1_4 h
            refine lv_tableOut (tgt := 112) hx hb dX11_chimes_1 (by have hj0 := lv_neT hs1_0 (a := 0) rfl; have hj1 := lv_neT hs1_1 (a := 1) rfl; have hj2 := lv_neT hs1_2 (a := 2) rfl; have hj3 := lv_neT hs1_3 (a := 3) rfl; have hj4 := lv_neT hs1_4 (a := 4) rfl; omega) (by decide) ?_
            refine lv_aload_n hx hb dX11_chimes_112 rfl (lv_at hl 0 rfl) ?_
            refine lv_iload_n hx hb dX11_chimes_113 rfl (lv_at hl 3 rfl) ?_
            refine lv_iload hx hb dX11_chimes_114 (lv_at hl 4 rfl) ?_
            obtain ⟨o16, ho16, h⟩ := gm_bind_e h
            refine gm_callV (As := [.int x3, .int x4]) (rest := []) (n := 2) (ci := 11) (q0 := 0) C0 hH (mX11_isHalf l dC dI cI q q_tongue q_refused q_fresh q_kept q_isKept q_text q_said q_talk m_thrown m_size m_at m_start m_token m_value m_faultAt m_allowed m_firstPair m_secondPair m_above m_below m_tongue x3 x4 ho16) gX11_chimes_X11_isHalf rfl (by decide +kernel) ⟨rfl, rfl, Nat.le_of_ble_eq_true rfl, Nat.le_of_ble_eq_true rfl⟩ gm_T_ok (fun _ => trivial) [0, 1] rfl rfl rfl [0] rfl rfl rfl rfl hl.1 rfl (Nat.le_of_ble_eq_true rfl) dX11_chimes_116 ⟨Nat.zero_le _, Nat.zero_le _⟩ (fun H locs hH => ?_)
            have hH : gm_H (dC, dI) A s (wX11_chimes cI q q_tongue q_refused q_fresh q_kept q_isKept q_text q_said q_talk m_thrown m_size m_at m_start m_token m_value m_faultAt m_allowed m_firstPair m_secondPair m_above m_below m_tongue) H locs := hH
            refine lv_if_ne (tgt := 131) hx hb dX11_chimes_119 (by decide) (fun hc17 => ?_) (fun hc17 => ?_)
            · replace h := gm_neg hc17 h
              exact tX11_chimes_b131 C0  h hH (lv_sub hl [] rfl)
            · replace h := gm_pos hc17 h
              refine lv_aload_n hx hb dX11_chimes_122 rfl (lv_at hl 0 rfl) ?_
              refine lv_iload_n hx hb dX11_chimes_123 rfl (lv_at hl 3 rfl) ?_
              obtain ⟨o18, ho18, h⟩ := gm_bind_e h
              refine gm_callV (As := [.int x3]) (rest := []) (n := 1) (ci := 11) (q0 := 0) C0 hH (mX11_meaning l dC dI cI q q_tongue q_refused q_fresh q_kept q_isKept q_text q_said q_talk m_thrown m_size m_at m_start m_token m_value m_faultAt m_allowed m_firstPair m_secondPair m_above m_below m_tongue x3 ho18) gX11_chimes_X11_meaning rfl (by decide +kernel) ⟨rfl, rfl, Nat.le_of_ble_eq_true rfl, Nat.le_of_ble_eq_true rfl⟩ gm_T_ok (fun _ => trivial) [0, 1] rfl rfl rfl [0] rfl rfl rfl rfl hl.1 rfl (Nat.le_of_ble_eq_true rfl) dX11_chimes_124 ⟨Nat.zero_le _, Nat.zero_le _⟩ (fun H locs hH => ?_)
              have hH : gm_H (dC, dI) A s (wX11_chimes cI q q_tongue q_refused q_fresh q_kept q_isKept q_text q_said q_talk m_thrown m_size m_at m_start m_token m_value m_faultAt m_allowed m_firstPair m_secondPair m_above m_below m_tongue) H locs := hH
              refine lv_iload_n hx hb dX11_chimes_127 rfl (lv_at hl 2 rfl) ?_
              refine lv_icmp_ne (tgt := 135) hx hb dX11_chimes_128 (by decide) (fun hc19 => ?_) (fun hc19 => ?_)
              · replace h := gm_neg hc19 h
                refine lv_iconst (v := 0) hx hb dX11_chimes_135 (by decide) ?_
                cases h
                exact gm_zret C0 hH (by decide) dX11_chimes_136
              · replace h := gm_pos hc19 h
                exact tX11_chimes_b131 C0  h hH (lv_sub hl [] rfl)

/-! X11_kind -/
abbrev wX11_kind (cI : ClassId) (q q_tongue q_refused q_fresh q_kept q_isKept q_text q_said q_talk : Nat) (m_thrown : Int32) (m_size : Int32) (m_at : Int32) (m_start : Int32) (m_token : Int32) (m_value : Int64) (m_faultAt : Int32) (m_allowed : Int32) (m_firstPair : Int32) (m_secondPair : Int32) (m_above : Int64) (m_below : Int64) (m_tongue : Nat → Int32) : va_W := [(q, .inr (11, [.int m_thrown, .ref q_refused, .ref q_tongue, .ref q_fresh, .ref q_kept, .ref q_isKept, .ref q_text, .int m_size, .int m_at, .int m_start, .int m_token, .long m_value, .int m_faultAt, .ref q_said, .ref q_talk, .int m_allowed, .int m_firstPair, .int m_secondPair, .long m_above, .long m_below])), (q_tongue, .inl (cI, 73, .inl m_tongue))]
abbrev rX11_kind : Room := { frames := 0, cells := 0, slots := 0, locals := 0 }
def fX11_kind (N : Nat) (m_tongue : Nat → Int32) (x1 : Int32) : Option (Int32) := gm_chk ((35 + (2 * x1))) 73 (some ((m_tongue (Int32.toNatClampNeg ((35 + (2 * x1)))))))
set_option maxRecDepth 20000 in
theorem inX11_kind_X11 : ∀ w ∈ u_ws RX11 TX11 20, w ∈ wsX11_kind := fun w h => by
  obtain ⟨k, hk, rfl⟩ := List.mem_map.mp h
  have hk2 := List.mem_range.mp hk
  exact List.mem_of_getElem? (i := 2 + k) (by rcases (show k = 0 ∨ k = 1 ∨ k = 2 ∨ k = 3 ∨ k = 4 ∨ k = 5 ∨ k = 6 ∨ k = 7 ∨ k = 8 ∨ k = 9 ∨ k = 10 ∨ k = 11 ∨ k = 12 ∨ k = 13 ∨ k = 14 ∨ k = 15 ∨ k = 16 ∨ k = 17 ∨ k = 18 ∨ k = 19 by omega) with rfl | rfl | rfl | rfl | rfl | rfl | rfl | rfl | rfl | rfl | rfl | rfl | rfl | rfl | rfl | rfl | rfl | rfl | rfl | rfl <;> rfl)
set_option maxRecDepth 100000 in
set_option maxHeartbeats 4000000 in
theorem mX11_kind (l : Launch) (dC : Nat → ClassId) (dI : Nat → Nat → Nat) (cI : ClassId) (q q_tongue q_refused q_fresh q_kept q_isKept q_text q_said q_talk : Nat) (m_thrown : Int32) (m_size : Int32) (m_at : Int32) (m_start : Int32) (m_token : Int32) (m_value : Int64) (m_faultAt : Int32) (m_allowed : Int32) (m_firstPair : Int32) (m_secondPair : Int32) (m_above : Int64) (m_below : Int64) (m_tongue : Nat → Int32) (x1 : Int32) {N : Nat} {out : Int32} (h : fX11_kind N m_tongue x1 = some out) : gm_Met l yX11_kind wsX11_kind rX11_kind (dC, dI) [(cI, .int)] gm_T [.ref q, .int x1] (wX11_kind cI q q_tongue q_refused q_fresh q_kept q_isKept q_text q_said q_talk m_thrown m_size m_at m_start m_token m_value m_faultAt m_allowed m_firstPair m_secondPair m_above m_below m_tongue) (some (.int out)) (wX11_kind cI q q_tongue q_refused q_fresh q_kept q_isKept q_text q_said q_talk m_thrown m_size m_at m_start m_token m_value m_faultAt m_allowed m_firstPair m_secondPair m_above m_below m_tongue) := by
  refine gm_ofW (cc := cX11_kind) (maxL := 2) (ret := (some .int)) (by decide +kernel) rfl (Nat.le_of_ble_eq_true rfl) ?_
  intro p e s m below meth c A C0 hH ls hl
  generalize ([.ref q, .int x1] : List Value).toArray = args at C0 ⊢
  have hl : lv_has ls 2 [(0, .ref q), (1, .int x1)] := hl
  generalize s.heap = H at hH ⊢
  generalize ([] : List Loc) = locs at hH ⊢
  obtain ⟨hx, hb, hml, hr, hown, hts, hA, hK, hX, hlocks⟩ := id C0
  unfold fX11_kind at h
  refine lv_aload_n hx hb dX11_kind_0 rfl (lv_at hl 0 rfl) ?_
  refine gm_get (ci := 11) C0 hH inX11_kind_X11 0 2 1 rfl rfl (by decide) rfl rfl dX11_kind_1 ?_
  refine lv_bipush (v := 35) hx hb dX11_kind_4 (by decide) ?_
  refine lv_iconst (v := 2) hx hb dX11_kind_6 (by decide) ?_
  refine lv_iload_n hx hb dX11_kind_7 rfl (lv_at hl 1 rfl) ?_
  refine lv_imul hx hb dX11_kind_8 ?_
  refine lv_iadd hx hb dX11_kind_9 ?_
  obtain ⟨hi1, h⟩ := gm_chk_e h
  refine gm_iald C0 hH hi1 1 0 rfl rfl dX11_kind_10 ?_
  cases h
  exact gm_iret C0 hH dX11_kind_11

/-! X11_want -/
abbrev wX11_want (cI : ClassId) (q q_tongue q_refused q_fresh q_kept q_isKept q_text q_said q_talk : Nat) (m_thrown : Int32) (m_size : Int32) (m_at : Int32) (m_start : Int32) (m_token : Int32) (m_value : Int64) (m_faultAt : Int32) (m_allowed : Int32) (m_firstPair : Int32) (m_secondPair : Int32) (m_above : Int64) (m_below : Int64) (m_tongue : Nat → Int32) : va_W := [(q, .inr (11, [.int m_thrown, .ref q_refused, .ref q_tongue, .ref q_fresh, .ref q_kept, .ref q_isKept, .ref q_text, .int m_size, .int m_at, .int m_start, .int m_token, .long m_value, .int m_faultAt, .ref q_said, .ref q_talk, .int m_allowed, .int m_firstPair, .int m_secondPair, .long m_above, .long m_below])), (q_tongue, .inl (cI, 73, .inl m_tongue))]
abbrev rX11_want : Room := { frames := 0, cells := 0, slots := 0, locals := 0 }
def fX11_want (N : Nat) (m_tongue : Nat → Int32) (x1 : Int32) : Option (Int32) := gm_chk (((35 + (2 * x1)) + 1)) 73 (some ((m_tongue (Int32.toNatClampNeg (((35 + (2 * x1)) + 1))))))
set_option maxRecDepth 20000 in
theorem inX11_want_X11 : ∀ w ∈ u_ws RX11 TX11 20, w ∈ wsX11_want := fun w h => by
  obtain ⟨k, hk, rfl⟩ := List.mem_map.mp h
  have hk2 := List.mem_range.mp hk
  exact List.mem_of_getElem? (i := 2 + k) (by rcases (show k = 0 ∨ k = 1 ∨ k = 2 ∨ k = 3 ∨ k = 4 ∨ k = 5 ∨ k = 6 ∨ k = 7 ∨ k = 8 ∨ k = 9 ∨ k = 10 ∨ k = 11 ∨ k = 12 ∨ k = 13 ∨ k = 14 ∨ k = 15 ∨ k = 16 ∨ k = 17 ∨ k = 18 ∨ k = 19 by omega) with rfl | rfl | rfl | rfl | rfl | rfl | rfl | rfl | rfl | rfl | rfl | rfl | rfl | rfl | rfl | rfl | rfl | rfl | rfl | rfl <;> rfl)
set_option maxRecDepth 100000 in
set_option maxHeartbeats 4000000 in
theorem mX11_want (l : Launch) (dC : Nat → ClassId) (dI : Nat → Nat → Nat) (cI : ClassId) (q q_tongue q_refused q_fresh q_kept q_isKept q_text q_said q_talk : Nat) (m_thrown : Int32) (m_size : Int32) (m_at : Int32) (m_start : Int32) (m_token : Int32) (m_value : Int64) (m_faultAt : Int32) (m_allowed : Int32) (m_firstPair : Int32) (m_secondPair : Int32) (m_above : Int64) (m_below : Int64) (m_tongue : Nat → Int32) (x1 : Int32) {N : Nat} {out : Int32} (h : fX11_want N m_tongue x1 = some out) : gm_Met l yX11_want wsX11_want rX11_want (dC, dI) [(cI, .int)] gm_T [.ref q, .int x1] (wX11_want cI q q_tongue q_refused q_fresh q_kept q_isKept q_text q_said q_talk m_thrown m_size m_at m_start m_token m_value m_faultAt m_allowed m_firstPair m_secondPair m_above m_below m_tongue) (some (.int out)) (wX11_want cI q q_tongue q_refused q_fresh q_kept q_isKept q_text q_said q_talk m_thrown m_size m_at m_start m_token m_value m_faultAt m_allowed m_firstPair m_secondPair m_above m_below m_tongue) := by
  refine gm_ofW (cc := cX11_want) (maxL := 2) (ret := (some .int)) (by decide +kernel) rfl (Nat.le_of_ble_eq_true rfl) ?_
  intro p e s m below meth c A C0 hH ls hl
  generalize ([.ref q, .int x1] : List Value).toArray = args at C0 ⊢
  have hl : lv_has ls 2 [(0, .ref q), (1, .int x1)] := hl
  generalize s.heap = H at hH ⊢
  generalize ([] : List Loc) = locs at hH ⊢
  obtain ⟨hx, hb, hml, hr, hown, hts, hA, hK, hX, hlocks⟩ := id C0
  unfold fX11_want at h
  refine lv_aload_n hx hb dX11_want_0 rfl (lv_at hl 0 rfl) ?_
  refine gm_get (ci := 11) C0 hH inX11_want_X11 0 2 1 rfl rfl (by decide) rfl rfl dX11_want_1 ?_
  refine lv_bipush (v := 35) hx hb dX11_want_4 (by decide) ?_
  refine lv_iconst (v := 2) hx hb dX11_want_6 (by decide) ?_
  refine lv_iload_n hx hb dX11_want_7 rfl (lv_at hl 1 rfl) ?_
  refine lv_imul hx hb dX11_want_8 ?_
  refine lv_iadd hx hb dX11_want_9 ?_
  refine lv_iconst (v := 1) hx hb dX11_want_10 (by decide) ?_
  refine lv_iadd hx hb dX11_want_11 ?_
  obtain ⟨hi1, h⟩ := gm_chk_e h
  refine gm_iald C0 hH hi1 1 0 rfl rfl dX11_want_12 ?_
  cases h
  exact gm_iret C0 hH dX11_want_13

/-! X11_chimesWith -/
abbrev wX11_chimesWith (cI : ClassId) (q q_tongue q_refused q_fresh q_kept q_isKept q_text q_said q_talk : Nat) (m_thrown : Int32) (m_size : Int32) (m_at : Int32) (m_start : Int32) (m_token : Int32) (m_value : Int64) (m_faultAt : Int32) (m_allowed : Int32) (m_firstPair : Int32) (m_secondPair : Int32) (m_above : Int64) (m_below : Int64) (m_tongue : Nat → Int32) : va_W := [(q, .inr (11, [.int m_thrown, .ref q_refused, .ref q_tongue, .ref q_fresh, .ref q_kept, .ref q_isKept, .ref q_text, .int m_size, .int m_at, .int m_start, .int m_token, .long m_value, .int m_faultAt, .ref q_said, .ref q_talk, .int m_allowed, .int m_firstPair, .int m_secondPair, .long m_above, .long m_below])), (q_tongue, .inl (cI, 73, .inl m_tongue))]
abbrev rX11_chimesWith : Room := { frames := 4, cells := 0, slots := 0, locals := 89 }
def fX11_chimesWith_b45 (N : Nat) (r5 : Int32 → Int32 → Option (Int32)) (m_tongue : Nat → Int32) (x1 : Int32) (x2 : Int32) (x4 : Int32) (k0 : Int32) (k1 : Int32) : Option (Int32) := gm_let ((k0 ||| k1) : Int32) (fun (v7 : Int32) => (r5 v7 ((x4 + 1))))
def fX11_chimesWith_b5_body (N : Nat)  (m_tongue : Nat → Int32) (x1 : Int32) (x2 : Int32) (r5 : Int32 → Int32 → Option (Int32)) (x3 : Int32) (x4 : Int32) : Option (Int32) := gm_chk 0 73 ((if (m_tongue (Int32.toNatClampNeg 0)) ≤ x4 then some (x3) else gm_bind (fX11_kind N m_tongue x1) (fun o3 => gm_bind (fX11_want N m_tongue x1) (fun o4 => gm_bind (fX11_chimes N m_tongue o3 o4 x4 x2) (fun o5 => (if o5 = 0 then (fX11_chimesWith_b45 N r5 m_tongue x1 x2 x4 x3 0) else (fX11_chimesWith_b45 N r5 m_tongue x1 x2 x4 x3 ((1 <<< (x4 &&& 31))))))))))
def fX11_chimesWith_b5 (N : Nat)  (m_tongue : Nat → Int32) (x1 : Int32) (x2 : Int32) (x3 : Int32) (x4 : Int32) : Option (Int32) := gm_fix (fX11_chimesWith_b5_body N  m_tongue x1 x2) (fun _ _ => none) N x3 x4
def fX11_chimesWith (N : Nat) (m_tongue : Nat → Int32) (x1 : Int32) (x2 : Int32) : Option (Int32) := (fX11_chimesWith_b5 N  m_tongue x1 x2 0 0)
set_option maxRecDepth 20000 in
theorem inX11_chimesWith_X11 : ∀ w ∈ u_ws RX11 TX11 20, w ∈ wsX11_chimesWith := fun w h => by
  obtain ⟨k, hk, rfl⟩ := List.mem_map.mp h
  have hk2 := List.mem_range.mp hk
  exact List.mem_of_getElem? (i := 38 + k) (by rcases (show k = 0 ∨ k = 1 ∨ k = 2 ∨ k = 3 ∨ k = 4 ∨ k = 5 ∨ k = 6 ∨ k = 7 ∨ k = 8 ∨ k = 9 ∨ k = 10 ∨ k = 11 ∨ k = 12 ∨ k = 13 ∨ k = 14 ∨ k = 15 ∨ k = 16 ∨ k = 17 ∨ k = 18 ∨ k = 19 by omega) with rfl | rfl | rfl | rfl | rfl | rfl | rfl | rfl | rfl | rfl | rfl | rfl | rfl | rfl | rfl | rfl | rfl | rfl | rfl | rfl <;> rfl)
set_option maxRecDepth 100000 in
set_option maxHeartbeats 4000000 in
theorem tX11_chimesWith_b45 {p : Program} {l : Launch} {e : Env} {s : State} {m : MethodId} {args : Array Value} {below : List Frame} {meth : Method} {c : Code} {A : Nat → Prop} {dC : Nat → ClassId} {dI : Nat → Nat → Nat} {cI : ClassId} {q q_tongue q_refused q_fresh q_kept q_isKept q_text q_said q_talk : Nat} {m_thrown : Int32} {m_size : Int32} {m_at : Int32} {m_start : Int32} {m_token : Int32} {m_value : Int64} {m_faultAt : Int32} {m_allowed : Int32} {m_firstPair : Int32} {m_secondPair : Int32} {m_above : Int64} {m_below : Int64} {m_tongue : Nat → Int32} {x1 : Int32} {x2 : Int32} {x4 : Int32} {k0 : Int32} {k1 : Int32} (C0 : gm_C p s m args meth c (dC, dI) [(cI, .int)] A gm_T RX11 cX11_chimesWith 5 (some .int) wsX11_chimesWith) {N : Nat} {out : Int32} {r5 : Int32 → Int32 → Option (Int32)} (hr5 : ∀ (x3 : Int32) (x4 : Int32) (H : Heap) (locs : List Loc) (ls : Array Slot), r5 x3 x4 = some out → gm_H (dC, dI) A s (wX11_chimesWith cI q q_tongue q_refused q_fresh q_kept q_isKept q_text q_said q_talk m_thrown m_size m_at m_start m_token m_value m_faultAt m_allowed m_firstPair m_secondPair m_above m_below m_tongue) H locs → lv_has ls 5 [(0, .ref q), (1, .int x1), (2, .int x2), (3, .int x3), (4, .int x4)] → W p l e rX11_chimesWith s m args below meth c H locs 0 0 (MQ below (gm_Q (dC, dI) [(cI, .int)] A (some (.int out)) (wX11_chimesWith cI q q_tongue q_refused q_fresh q_kept q_isKept q_text q_said q_talk m_thrown m_size m_at m_start m_token m_value m_faultAt m_allowed m_firstPair m_secondPair m_above m_below m_tongue)) args s 0 0 A) (F0 m 5 ls []))  {H : Heap} {locs : List Loc} {ls : Array Slot} (h : fX11_chimesWith_b45 N r5 m_tongue x1 x2 x4 k0 k1 = some out) (hH : gm_H (dC, dI) A s (wX11_chimesWith cI q q_tongue q_refused q_fresh q_kept q_isKept q_text q_said q_talk m_thrown m_size m_at m_start m_token m_value m_faultAt m_allowed m_firstPair m_secondPair m_above m_below m_tongue) H locs) (hl : lv_has ls 5 [(0, .ref q), (1, .int x1), (2, .int x2), (4, .int x4)]) : W p l e rX11_chimesWith s m args below meth c H locs 0 0 (MQ below (gm_Q (dC, dI) [(cI, .int)] A (some (.int out)) (wX11_chimesWith cI q q_tongue q_refused q_fresh q_kept q_isKept q_text q_said q_talk m_thrown m_size m_at m_start m_token m_value m_faultAt m_allowed m_firstPair m_secondPair m_above m_below m_tongue)) args s 0 0 A) (F0 m 45 ls [.int k1, .int k0]) := by
  obtain ⟨hx, hb, hml, hr, hown, hts, hA, hK, hX, hlocks⟩ := id C0
  unfold fX11_chimesWith_b45 at h
  refine lv_ior hx hb dX11_chimesWith_45 ?_
  refine lv_topi (fun v7 ev7 => ?_)
  replace h := gm_let_e ev7 h
  refine lv_istore_n (lv' := [(3, .int v7), (0, .ref q), (1, .int x1), (2, .int x2), (4, .int x4)]) hx hb dX11_chimesWith_46 rfl hl (by decide) rfl (fun ls hl => ?_)
  refine lv_iinc (v := (x4 + 1)) (lv' := [(4, .int (x4 + 1)), (3, .int v7), (0, .ref q), (1, .int x1), (2, .int x2)]) hx hb dX11_chimesWith_47 hl (k := 4) rfl rfl (by decide) rfl (fun ls hl => ?_)
  refine lv_goto (tgt := 5) hx hb dX11_chimesWith_50 (by decide) ?_
  exact hr5 _ _ _ _ _ h hH (lv_sub hl [2, 3, 4, 1, 0] rfl)
set_option maxRecDepth 100000 in
set_option maxHeartbeats 4000000 in
theorem tX11_chimesWith_b5 {p : Program} {l : Launch} {e : Env} {s : State} {m : MethodId} {args : Array Value} {below : List Frame} {meth : Method} {c : Code} {A : Nat → Prop} {dC : Nat → ClassId} {dI : Nat → Nat → Nat} {cI : ClassId} {q q_tongue q_refused q_fresh q_kept q_isKept q_text q_said q_talk : Nat} {m_thrown : Int32} {m_size : Int32} {m_at : Int32} {m_start : Int32} {m_token : Int32} {m_value : Int64} {m_faultAt : Int32} {m_allowed : Int32} {m_firstPair : Int32} {m_secondPair : Int32} {m_above : Int64} {m_below : Int64} {m_tongue : Nat → Int32} {x1 : Int32} {x2 : Int32} (C0 : gm_C p s m args meth c (dC, dI) [(cI, .int)] A gm_T RX11 cX11_chimesWith 5 (some .int) wsX11_chimesWith) {N : Nat} {out : Int32}  : ∀ (n : Nat), ∀ (x3 : Int32) (x4 : Int32) (H : Heap) (locs : List Loc) (ls : Array Slot), (gm_fix (fX11_chimesWith_b5_body N  m_tongue x1 x2) (fun _ _ => none) n) x3 x4 = some out → gm_H (dC, dI) A s (wX11_chimesWith cI q q_tongue q_refused q_fresh q_kept q_isKept q_text q_said q_talk m_thrown m_size m_at m_start m_token m_value m_faultAt m_allowed m_firstPair m_secondPair m_above m_below m_tongue) H locs → lv_has ls 5 [(0, .ref q), (1, .int x1), (2, .int x2), (3, .int x3), (4, .int x4)] → W p l e rX11_chimesWith s m args below meth c H locs 0 0 (MQ below (gm_Q (dC, dI) [(cI, .int)] A (some (.int out)) (wX11_chimesWith cI q q_tongue q_refused q_fresh q_kept q_isKept q_text q_said q_talk m_thrown m_size m_at m_start m_token m_value m_faultAt m_allowed m_firstPair m_secondPair m_above m_below m_tongue)) args s 0 0 A) (F0 m 5 ls []) := by
  obtain ⟨hx, hb, hml, hr, hown, hts, hA, hK, hX, hlocks⟩ := id C0
  intro n
  induction n with
  | zero =>
    intro x3 x4 H locs ls h hH hl
    cases h
  | succ n hr5 =>
    intro x3 x4 H locs ls h hH hl
    rw [gm_fix_s] at h
    unfold fX11_chimesWith_b5_body at h
    refine lv_iload hx hb dX11_chimesWith_5 (lv_at hl 4 rfl) ?_
    refine lv_aload_n hx hb dX11_chimesWith_7 rfl (lv_at hl 0 rfl) ?_
    refine gm_get (ci := 11) C0 hH inX11_chimesWith_X11 0 2 1 rfl rfl (by decide) rfl rfl dX11_chimesWith_8 ?_
    refine lv_iconst (v := 0) hx hb dX11_chimesWith_11 (by decide) ?_
    obtain ⟨hi1, h⟩ := gm_chk_e h
    refine gm_iald C0 hH hi1 1 0 rfl rfl dX11_chimesWith_12 ?_
    refine lv_icmp_ge (tgt := 53) hx hb dX11_chimesWith_13 (by decide) (fun hc2 => ?_) (fun hc2 => ?_)
    · replace h := gm_pos hc2 h
      refine lv_iload_n hx hb dX11_chimesWith_53 rfl (lv_at hl 3 rfl) ?_
      cases h
      exact gm_iret C0 hH dX11_chimesWith_54
    · replace h := gm_neg hc2 h
      refine lv_iload_n hx hb dX11_chimesWith_16 rfl (lv_at hl 3 rfl) ?_
      refine lv_aload_n hx hb dX11_chimesWith_17 rfl (lv_at hl 0 rfl) ?_
      refine lv_aload_n hx hb dX11_chimesWith_18 rfl (lv_at hl 0 rfl) ?_
      refine lv_iload_n hx hb dX11_chimesWith_19 rfl (lv_at hl 1 rfl) ?_
      obtain ⟨o3, ho3, h⟩ := gm_bind_e h
      refine gm_callV (As := [.int x1]) (rest := [.ref q, .int x3]) (n := 1) (ci := 11) (q0 := 0) C0 hH (mX11_kind l dC dI cI q q_tongue q_refused q_fresh q_kept q_isKept q_text q_said q_talk m_thrown m_size m_at m_start m_token m_value m_faultAt m_allowed m_firstPair m_secondPair m_above m_below m_tongue x1 ho3) gX11_chimesWith_X11_kind rfl (by decide +kernel) ⟨rfl, rfl, Nat.le_of_ble_eq_true rfl, Nat.le_of_ble_eq_true rfl⟩ gm_T_ok (fun _ => trivial) [0, 1] rfl rfl rfl [0] rfl rfl rfl rfl hl.1 rfl (Nat.le_of_ble_eq_true rfl) dX11_chimesWith_20 ⟨Nat.zero_le _, Nat.zero_le _⟩ (fun H locs hH => ?_)
      have hH : gm_H (dC, dI) A s (wX11_chimesWith cI q q_tongue q_refused q_fresh q_kept q_isKept q_text q_said q_talk m_thrown m_size m_at m_start m_token m_value m_faultAt m_allowed m_firstPair m_secondPair m_above m_below m_tongue) H locs := hH
      refine lv_aload_n hx hb dX11_chimesWith_23 rfl (lv_at hl 0 rfl) ?_
      refine lv_iload_n hx hb dX11_chimesWith_24 rfl (lv_at hl 1 rfl) ?_
      obtain ⟨o4, ho4, h⟩ := gm_bind_e h
      refine gm_callV (As := [.int x1]) (rest := [.int o3, .ref q, .int x3]) (n := 1) (ci := 11) (q0 := 0) C0 hH (mX11_want l dC dI cI q q_tongue q_refused q_fresh q_kept q_isKept q_text q_said q_talk m_thrown m_size m_at m_start m_token m_value m_faultAt m_allowed m_firstPair m_secondPair m_above m_below m_tongue x1 ho4) gX11_chimesWith_X11_want rfl (by decide +kernel) ⟨rfl, rfl, Nat.le_of_ble_eq_true rfl, Nat.le_of_ble_eq_true rfl⟩ gm_T_ok (fun _ => trivial) [0, 1] rfl rfl rfl [0] rfl rfl rfl rfl hl.1 rfl (Nat.le_of_ble_eq_true rfl) dX11_chimesWith_25 ⟨Nat.zero_le _, Nat.zero_le _⟩ (fun H locs hH => ?_)
      have hH : gm_H (dC, dI) A s (wX11_chimesWith cI q q_tongue q_refused q_fresh q_kept q_isKept q_text q_said q_talk m_thrown m_size m_at m_start m_token m_value m_faultAt m_allowed m_firstPair m_secondPair m_above m_below m_tongue) H locs := hH
      refine lv_iload hx hb dX11_chimesWith_28 (lv_at hl 4 rfl) ?_
      refine lv_iload_n hx hb dX11_chimesWith_30 rfl (lv_at hl 2 rfl) ?_
      obtain ⟨o5, ho5, h⟩ := gm_bind_e h
      refine gm_callV (As := [.int o3, .int o4, .int x4, .int x2]) (rest := [.int x3]) (n := 4) (ci := 11) (q0 := 0) C0 hH (mX11_chimes l dC dI cI q q_tongue q_refused q_fresh q_kept q_isKept q_text q_said q_talk m_thrown m_size m_at m_start m_token m_value m_faultAt m_allowed m_firstPair m_secondPair m_above m_below m_tongue o3 o4 x4 x2 ho5) gX11_chimesWith_X11_chimes rfl (by decide +kernel) ⟨rfl, rfl, Nat.le_of_ble_eq_true rfl, Nat.le_of_ble_eq_true rfl⟩ gm_T_ok (fun _ => trivial) [0, 1] rfl rfl rfl [0] rfl rfl rfl rfl hl.1 rfl (Nat.le_of_ble_eq_true rfl) dX11_chimesWith_31 ⟨Nat.zero_le _, Nat.zero_le _⟩ (fun H locs hH => ?_)
      have hH : gm_H (dC, dI) A s (wX11_chimesWith cI q q_tongue q_refused q_fresh q_kept q_isKept q_text q_said q_talk m_thrown m_size m_at m_start m_token m_value m_faultAt m_allowed m_firstPair m_secondPair m_above m_below m_tongue) H locs := hH
      refine lv_if_eq (tgt := 44) hx hb dX11_chimesWith_34 (by decide) (fun hc6 => ?_) (fun hc6 => ?_)
      · replace h := gm_pos hc6 h
        refine lv_iconst (v := 0) hx hb dX11_chimesWith_44 (by decide) ?_
        exact tX11_chimesWith_b45 C0 hr5 h hH (lv_sub hl [0, 1, 2, 4] rfl)
      · replace h := gm_neg hc6 h
        refine lv_iconst (v := 1) hx hb dX11_chimesWith_37 (by decide) ?_
        refine lv_iload hx hb dX11_chimesWith_38 (lv_at hl 4 rfl) ?_
        refine lv_ishl hx hb dX11_chimesWith_40 ?_
        refine lv_goto (tgt := 45) hx hb dX11_chimesWith_41 (by decide) ?_
        exact tX11_chimesWith_b45 C0 hr5 h hH (lv_sub hl [0, 1, 2, 4] rfl)
set_option maxRecDepth 100000 in
set_option maxHeartbeats 4000000 in
theorem mX11_chimesWith (l : Launch) (dC : Nat → ClassId) (dI : Nat → Nat → Nat) (cI : ClassId) (q q_tongue q_refused q_fresh q_kept q_isKept q_text q_said q_talk : Nat) (m_thrown : Int32) (m_size : Int32) (m_at : Int32) (m_start : Int32) (m_token : Int32) (m_value : Int64) (m_faultAt : Int32) (m_allowed : Int32) (m_firstPair : Int32) (m_secondPair : Int32) (m_above : Int64) (m_below : Int64) (m_tongue : Nat → Int32) (x1 : Int32) (x2 : Int32) {N : Nat} {out : Int32} (h : fX11_chimesWith N m_tongue x1 x2 = some out) : gm_Met l yX11_chimesWith wsX11_chimesWith rX11_chimesWith (dC, dI) [(cI, .int)] gm_T [.ref q, .int x1, .int x2] (wX11_chimesWith cI q q_tongue q_refused q_fresh q_kept q_isKept q_text q_said q_talk m_thrown m_size m_at m_start m_token m_value m_faultAt m_allowed m_firstPair m_secondPair m_above m_below m_tongue) (some (.int out)) (wX11_chimesWith cI q q_tongue q_refused q_fresh q_kept q_isKept q_text q_said q_talk m_thrown m_size m_at m_start m_token m_value m_faultAt m_allowed m_firstPair m_secondPair m_above m_below m_tongue) := by
  refine gm_ofW (cc := cX11_chimesWith) (maxL := 5) (ret := (some .int)) (by decide +kernel) rfl (Nat.le_of_ble_eq_true rfl) ?_
  intro p e s m below meth c A C0 hH ls hl
  generalize ([.ref q, .int x1, .int x2] : List Value).toArray = args at C0 ⊢
  have hl : lv_has ls 5 [(0, .ref q), (1, .int x1), (2, .int x2)] := hl
  generalize s.heap = H at hH ⊢
  generalize ([] : List Loc) = locs at hH ⊢
  obtain ⟨hx, hb, hml, hr, hown, hts, hA, hK, hX, hlocks⟩ := id C0
  unfold fX11_chimesWith at h
  refine lv_iconst (v := 0) hx hb dX11_chimesWith_0 (by decide) ?_
  refine lv_istore_n (lv' := [(3, .int 0), (0, .ref q), (1, .int x1), (2, .int x2)]) hx hb dX11_chimesWith_1 rfl hl (by decide) rfl (fun ls hl => ?_)
  refine lv_iconst (v := 0) hx hb dX11_chimesWith_2 (by decide) ?_
  refine lv_istore (lv' := [(4, .int 0), (3, .int 0), (0, .ref q), (1, .int x1), (2, .int x2)]) hx hb dX11_chimesWith_3 hl (by decide) rfl (fun ls hl => ?_)
  unfold fX11_chimesWith_b5 at h
  exact tX11_chimesWith_b5 C0  _ _ _ _ _ _ h hH (lv_sub hl [2, 3, 4, 1, 0] rfl)

/-! J6_bitCount_0f7a4 -/
abbrev rJ6_bitCount_0f7a4 : Room := { frames := 0, cells := 0, slots := 0, locals := 0 }
def fJ6_bitCount_0f7a4 (N : Nat)  (x0 : Int32) : Option (Int32) := gm_let ((x0 - (((Int32.toUInt32 x0 >>> (Int32.toUInt32 1 &&& Int32.toUInt32 31)).toInt32) &&& 1431655765)) : Int32) (fun (v1 : Int32) => gm_let (((v1 &&& 858993459) + (((Int32.toUInt32 v1 >>> (Int32.toUInt32 2 &&& Int32.toUInt32 31)).toInt32) &&& 858993459)) : Int32) (fun (v2 : Int32) => gm_let (((v2 + ((Int32.toUInt32 v2 >>> (Int32.toUInt32 4 &&& Int32.toUInt32 31)).toInt32)) &&& 252645135) : Int32) (fun (v3 : Int32) => gm_let ((v3 + ((Int32.toUInt32 v3 >>> (Int32.toUInt32 8 &&& Int32.toUInt32 31)).toInt32)) : Int32) (fun (v4 : Int32) => gm_let ((v4 + ((Int32.toUInt32 v4 >>> (Int32.toUInt32 16 &&& Int32.toUInt32 31)).toInt32)) : Int32) (fun (v5 : Int32) => some ((v5 &&& 63)))))))
set_option maxRecDepth 100000 in
set_option maxHeartbeats 4000000 in
theorem mJ6_bitCount_0f7a4 (l : Launch) (dC : Nat → ClassId) (dI : Nat → Nat → Nat)  (x0 : Int32) {N : Nat} {out : Int32} (h : fJ6_bitCount_0f7a4 N x0 = some out) : gm_Met l yJ6_bitCount_0f7a4 wsJ6_bitCount_0f7a4 rJ6_bitCount_0f7a4 (dC, dI) [] gm_T [.int x0] ([] : va_W) (some (.int out)) ([] : va_W) := by
  refine gm_ofW (cc := cJ6_bitCount_0f7a4) (maxL := 1) (ret := (some .int)) (by decide +kernel) rfl (Nat.le_of_ble_eq_true rfl) ?_
  intro p e s m below meth c A C0 hH ls hl
  generalize ([.int x0] : List Value).toArray = args at C0 ⊢
  have hl : lv_has ls 1 [(0, .int x0)] := hl
  generalize s.heap = H at hH ⊢
  generalize ([] : List Loc) = locs at hH ⊢
  obtain ⟨hx, hb, hml, hr, hown, hts, hA, hK, hX, hlocks⟩ := id C0
  unfold fJ6_bitCount_0f7a4 at h
  refine lv_iload_n hx hb dJ6_bitCount_0f7a4_0 rfl (lv_at hl 0 rfl) ?_
  refine lv_iload_n hx hb dJ6_bitCount_0f7a4_1 rfl (lv_at hl 0 rfl) ?_
  refine lv_iconst (v := 1) hx hb dJ6_bitCount_0f7a4_2 (by decide) ?_
  refine lv_iushr hx hb dJ6_bitCount_0f7a4_3 rfl ?_
  refine lv_ldcw (own := RJ6) (v := 1431655765) hx hb hown (gm_at C0 1 rfl) dJ6_bitCount_0f7a4_4 ?_
  refine lv_iand hx hb dJ6_bitCount_0f7a4_7 ?_
  refine lv_isub hx hb dJ6_bitCount_0f7a4_8 ?_
  refine lv_topi (fun v1 ev1 => ?_)
  replace h := gm_let_e ev1 h
  refine lv_istore_n (lv' := [(0, .int v1)]) hx hb dJ6_bitCount_0f7a4_9 rfl hl (by decide) rfl (fun ls hl => ?_)
  refine lv_iload_n hx hb dJ6_bitCount_0f7a4_10 rfl (lv_at hl 0 rfl) ?_
  refine lv_ldcw (own := RJ6) (v := 858993459) hx hb hown (gm_at C0 2 rfl) dJ6_bitCount_0f7a4_11 ?_
  refine lv_iand hx hb dJ6_bitCount_0f7a4_14 ?_
  refine lv_iload_n hx hb dJ6_bitCount_0f7a4_15 rfl (lv_at hl 0 rfl) ?_
  refine lv_iconst (v := 2) hx hb dJ6_bitCount_0f7a4_16 (by decide) ?_
  refine lv_iushr hx hb dJ6_bitCount_0f7a4_17 rfl ?_
  refine lv_ldcw (own := RJ6) (v := 858993459) hx hb hown (gm_at C0 2 rfl) dJ6_bitCount_0f7a4_18 ?_
  refine lv_iand hx hb dJ6_bitCount_0f7a4_21 ?_
  refine lv_iadd hx hb dJ6_bitCount_0f7a4_22 ?_
  refine lv_topi (fun v2 ev2 => ?_)
  replace h := gm_let_e ev2 h
  refine lv_istore_n (lv' := [(0, .int v2)]) hx hb dJ6_bitCount_0f7a4_23 rfl hl (by decide) rfl (fun ls hl => ?_)
  refine lv_iload_n hx hb dJ6_bitCount_0f7a4_24 rfl (lv_at hl 0 rfl) ?_
  refine lv_iload_n hx hb dJ6_bitCount_0f7a4_25 rfl (lv_at hl 0 rfl) ?_
  refine lv_iconst (v := 4) hx hb dJ6_bitCount_0f7a4_26 (by decide) ?_
  refine lv_iushr hx hb dJ6_bitCount_0f7a4_27 rfl ?_
  refine lv_iadd hx hb dJ6_bitCount_0f7a4_28 ?_
  refine lv_ldcw (own := RJ6) (v := 252645135) hx hb hown (gm_at C0 3 rfl) dJ6_bitCount_0f7a4_29 ?_
  refine lv_iand hx hb dJ6_bitCount_0f7a4_32 ?_
  refine lv_topi (fun v3 ev3 => ?_)
  replace h := gm_let_e ev3 h
  refine lv_istore_n (lv' := [(0, .int v3)]) hx hb dJ6_bitCount_0f7a4_33 rfl hl (by decide) rfl (fun ls hl => ?_)
  refine lv_iload_n hx hb dJ6_bitCount_0f7a4_34 rfl (lv_at hl 0 rfl) ?_
  refine lv_iload_n hx hb dJ6_bitCount_0f7a4_35 rfl (lv_at hl 0 rfl) ?_
  refine lv_bipush (v := 8) hx hb dJ6_bitCount_0f7a4_36 (by decide) ?_
  refine lv_iushr hx hb dJ6_bitCount_0f7a4_38 rfl ?_
  refine lv_iadd hx hb dJ6_bitCount_0f7a4_39 ?_
  refine lv_topi (fun v4 ev4 => ?_)
  replace h := gm_let_e ev4 h
  refine lv_istore_n (lv' := [(0, .int v4)]) hx hb dJ6_bitCount_0f7a4_40 rfl hl (by decide) rfl (fun ls hl => ?_)
  refine lv_iload_n hx hb dJ6_bitCount_0f7a4_41 rfl (lv_at hl 0 rfl) ?_
  refine lv_iload_n hx hb dJ6_bitCount_0f7a4_42 rfl (lv_at hl 0 rfl) ?_
  refine lv_bipush (v := 16) hx hb dJ6_bitCount_0f7a4_43 (by decide) ?_
  refine lv_iushr hx hb dJ6_bitCount_0f7a4_45 rfl ?_
  refine lv_iadd hx hb dJ6_bitCount_0f7a4_46 ?_
  refine lv_topi (fun v5 ev5 => ?_)
  replace h := gm_let_e ev5 h
  refine lv_istore_n (lv' := [(0, .int v5)]) hx hb dJ6_bitCount_0f7a4_47 rfl hl (by decide) rfl (fun ls hl => ?_)
  refine lv_iload_n hx hb dJ6_bitCount_0f7a4_48 rfl (lv_at hl 0 rfl) ?_
  refine lv_bipush (v := 63) hx hb dJ6_bitCount_0f7a4_49 (by decide) ?_
  refine lv_iand hx hb dJ6_bitCount_0f7a4_51 ?_
  cases h
  exact gm_iret C0 hH dJ6_bitCount_0f7a4_52
