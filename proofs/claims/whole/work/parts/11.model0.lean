/-! X11_in -/
abbrev rX11_in : Room := { frames := 0, cells := 0, slots := 0, locals := 0 }
def fX11_in (N : Nat)  (x0 : Int64) (x2 : Int64) (x4 : Int64) : Option (Int32) := (if (lg_cmp x0 x2) < 0 then some (0) else (if 0 < (lg_cmp x0 x4) then some (0) else some (1)))
set_option maxRecDepth 100000 in
set_option maxHeartbeats 4000000 in
theorem mX11_in (l : Launch) (dC : Nat → ClassId) (dI : Nat → Nat → Nat)  (x0 : Int64) (x2 : Int64) (x4 : Int64)  {N : Nat} {out : Int32} (h : fX11_in N x0 x2 x4 = some out) : gm_Met l yX11_in wsX11_in rX11_in (dC, dI) [] gm_T [.long x0, .long x2, .long x4] ([] : va_W) (some (.int out)) ([] : va_W) := by
  refine gm_ofW (cc := cX11_in) (maxL := 6) (ret := (some .boolean)) (by decide +kernel) rfl (Nat.le_of_ble_eq_true rfl) ?_
  intro p e s m below meth c A C0 hH ls hl
  generalize ([.long x0, .long x2, .long x4] : List Value).toArray = args at C0 ⊢
  have hl : lv_has ls 6 [(0, .long x0), (2, .long x2), (4, .long x4)] := hl
  generalize s.heap = H at hH ⊢
  generalize ([] : List Loc) = locs at hH ⊢
  obtain ⟨hx, hb, hml, hr, hown, hts, hA, hK, hX, hlocks⟩ := id C0
  unfold fX11_in at h
  refine lv_lload_n hx hb dX11_in_0 rfl (lv_at hl 0 rfl) ?_
  refine lv_lload_n hx hb dX11_in_1 rfl (lv_at hl 1 rfl) ?_
  refine W.lcmp hx hb dX11_in_2 ?_
  refine lv_if_lt (tgt := 17) hx hb dX11_in_3 (by decide) (fun hc1 => ?_) (fun hc1 => ?_)
  · replace h := gm_pos hc1 h
    refine lv_iconst (v := 0) hx hb dX11_in_17 (by decide) ?_
    obtain rfl := Option.some.inj h
    exact gm_zret C0 hH (show narrow .boolean (.int 0) = .int 0 by decide) dX11_in_18
  · replace h := gm_neg hc1 h
    refine lv_lload_n hx hb dX11_in_6 rfl (lv_at hl 0 rfl) ?_
    refine lv_lload hx hb dX11_in_7 (lv_at hl 2 rfl) ?_
    refine W.lcmp hx hb dX11_in_9 ?_
    refine lv_if_gt (tgt := 17) hx hb dX11_in_10 (by decide) (fun hc2 => ?_) (fun hc2 => ?_)
    · replace h := gm_pos hc2 h
      refine lv_iconst (v := 0) hx hb dX11_in_17 (by decide) ?_
      obtain rfl := Option.some.inj h
      exact gm_zret C0 hH (show narrow .boolean (.int 0) = .int 0 by decide) dX11_in_18
    · replace h := gm_neg hc2 h
      refine lv_iconst (v := 1) hx hb dX11_in_13 (by decide) ?_
      refine lv_goto (tgt := 18) hx hb dX11_in_14 (by decide) ?_
      obtain rfl := Option.some.inj h
      exact gm_zret C0 hH (show narrow .boolean (.int 1) = .int 1 by decide) dX11_in_18

/-! X11_has -/
abbrev rX11_has : Room := { frames := 0, cells := 0, slots := 0, locals := 0 }
def fX11_has (N : Nat)  (x0 : Int32) (x1 : Int32) : Option (Int32) := (if ((x0 >>> (x1 &&& 31)) &&& 1) = 1 then some (1) else some (0))
set_option maxRecDepth 100000 in
set_option maxHeartbeats 4000000 in
theorem mX11_has (l : Launch) (dC : Nat → ClassId) (dI : Nat → Nat → Nat)  (x0 : Int32) (x1 : Int32)  {N : Nat} {out : Int32} (h : fX11_has N x0 x1 = some out) : gm_Met l yX11_has wsX11_has rX11_has (dC, dI) [] gm_T [.int x0, .int x1] ([] : va_W) (some (.int out)) ([] : va_W) := by
  refine gm_ofW (cc := cX11_has) (maxL := 2) (ret := (some .boolean)) (by decide +kernel) rfl (Nat.le_of_ble_eq_true rfl) ?_
  intro p e s m below meth c A C0 hH ls hl
  generalize ([.int x0, .int x1] : List Value).toArray = args at C0 ⊢
  have hl : lv_has ls 2 [(0, .int x0), (1, .int x1)] := hl
  generalize s.heap = H at hH ⊢
  generalize ([] : List Loc) = locs at hH ⊢
  obtain ⟨hx, hb, hml, hr, hown, hts, hA, hK, hX, hlocks⟩ := id C0
  unfold fX11_has at h
  refine lv_iload_n hx hb dX11_has_0 rfl (lv_at hl 0 rfl) ?_
  refine lv_iload_n hx hb dX11_has_1 rfl (lv_at hl 1 rfl) ?_
  refine lv_ishr hx hb dX11_has_2 ?_
  refine lv_iconst (v := 1) hx hb dX11_has_3 (by decide) ?_
  refine lv_iand hx hb dX11_has_4 ?_
  refine lv_iconst (v := 1) hx hb dX11_has_5 (by decide) ?_
  refine lv_icmp_ne (tgt := 13) hx hb dX11_has_6 (by decide) (fun hc1 => ?_) (fun hc1 => ?_)
  · replace h := gm_neg hc1 h
    refine lv_iconst (v := 0) hx hb dX11_has_13 (by decide) ?_
    obtain rfl := Option.some.inj h
    exact gm_zret C0 hH (show narrow .boolean (.int 0) = .int 0 by decide) dX11_has_14
  · replace h := gm_pos hc1 h
    refine lv_iconst (v := 1) hx hb dX11_has_9 (by decide) ?_
    refine lv_goto (tgt := 14) hx hb dX11_has_10 (by decide) ?_
    obtain rfl := Option.some.inj h
    exact gm_zret C0 hH (show narrow .boolean (.int 1) = .int 1 by decide) dX11_has_14

/-! X11_bits -/
abbrev rX11_bits : Room := { frames := 0, cells := 0, slots := 0, locals := 0 }
def fX11_bits_b4_body (N : Nat)  (x0 : Int32) (r4 : Int32 → Int32 → Option (Int32)) (x1 : Int32) (x2 : Int32) : Option (Int32) := (if 10 ≤ x2 then some (x1) else gm_let ((x1 + ((x0 >>> (x2 &&& 31)) &&& 1)) : Int32) (fun (v2 : Int32) => (r4 v2 ((x2 + 1)))))
def fX11_bits_b4 (N : Nat)  (x0 : Int32) (x1 : Int32) (x2 : Int32) : Option (Int32) := gm_fix (fX11_bits_b4_body N  x0) (fun _ _ => none) N x1 x2
def fX11_bits (N : Nat)  (x0 : Int32) : Option (Int32) := (fX11_bits_b4 N  x0 0 0)
set_option maxRecDepth 100000 in
set_option maxHeartbeats 4000000 in
theorem tX11_bits_b4 {p : Program} {l : Launch} {e : Env} {s : State} {m : MethodId} {args : Array Value} {below : List Frame} {meth : Method} {c : Code} {A : Nat → Prop} {dC : Nat → ClassId} {dI : Nat → Nat → Nat} {x0 : Int32} (C0 : gm_C p s m args meth c (dC, dI) [] A gm_T RX11 cX11_bits 3 (some .int) wsX11_bits) {N : Nat} {out : Int32}   : ∀ (n : Nat), ∀ (x1 : Int32) (x2 : Int32) (H : Heap) (locs : List Loc) (ls : Array Slot), (gm_fix (fX11_bits_b4_body N  x0) (fun _ _ => none) n) x1 x2 = some out → gm_H (dC, dI) A s ([] : va_W) H locs → lv_has ls 3 [(0, .int x0), (1, .int x1), (2, .int x2)] → W p l e rX11_bits s m args below meth c H locs 0 0 (MQ below (gm_Q (dC, dI) [] A (some (.int out)) ([] : va_W)) args s 0 0 A) (F0 m 4 ls []) := by
  obtain ⟨hx, hb, hml, hr, hown, hts, hA, hK, hX, hlocks⟩ := id C0
  intro n
  induction n with
  | zero =>
    intro x1 x2 H locs ls h hH hl
    cases h
  | succ n hr4 =>
    intro x1 x2 H locs ls h hH hl
    rw [gm_fix_s] at h
    unfold fX11_bits_b4_body at h
    refine lv_iload_n hx hb dX11_bits_4 rfl (lv_at hl 2 rfl) ?_
    refine lv_bipush (v := 10) hx hb dX11_bits_5 (by decide) ?_
    refine lv_icmp_ge (tgt := 24) hx hb dX11_bits_7 (by decide) (fun hc1 => ?_) (fun hc1 => ?_)
    · replace h := gm_pos hc1 h
      refine lv_iload_n hx hb dX11_bits_24 rfl (lv_at hl 1 rfl) ?_
      obtain rfl := Option.some.inj h
      exact gm_iret C0 hH dX11_bits_25
    · replace h := gm_neg hc1 h
      refine lv_iload_n hx hb dX11_bits_10 rfl (lv_at hl 1 rfl) ?_
      refine lv_iload_n hx hb dX11_bits_11 rfl (lv_at hl 0 rfl) ?_
      refine lv_iload_n hx hb dX11_bits_12 rfl (lv_at hl 2 rfl) ?_
      refine lv_ishr hx hb dX11_bits_13 ?_
      refine lv_iconst (v := 1) hx hb dX11_bits_14 (by decide) ?_
      refine lv_iand hx hb dX11_bits_15 ?_
      refine lv_iadd hx hb dX11_bits_16 ?_
      refine lv_topi (fun v2 ev2 => ?_)
      replace h := gm_let_e ev2 h
      refine lv_istore_n (lv' := [(1, .int v2), (0, .int x0), (2, .int x2)]) hx hb dX11_bits_17 rfl hl (by decide) rfl (fun ls hl => ?_)
      refine lv_iinc (v := (x2 + 1)) (lv' := [(2, .int (x2 + 1)), (1, .int v2), (0, .int x0)]) hx hb dX11_bits_18 hl (k := 2) rfl rfl (by decide) rfl (fun ls hl => ?_)
      refine lv_goto (tgt := 4) hx hb dX11_bits_21 (by decide) ?_
      exact hr4 _ _ _ _ _ h hH (lv_sub hl [2, 1, 0] rfl)
set_option maxRecDepth 100000 in
set_option maxHeartbeats 4000000 in
theorem mX11_bits (l : Launch) (dC : Nat → ClassId) (dI : Nat → Nat → Nat)  (x0 : Int32)  {N : Nat} {out : Int32} (h : fX11_bits N x0 = some out) : gm_Met l yX11_bits wsX11_bits rX11_bits (dC, dI) [] gm_T [.int x0] ([] : va_W) (some (.int out)) ([] : va_W) := by
  refine gm_ofW (cc := cX11_bits) (maxL := 3) (ret := (some .int)) (by decide +kernel) rfl (Nat.le_of_ble_eq_true rfl) ?_
  intro p e s m below meth c A C0 hH ls hl
  generalize ([.int x0] : List Value).toArray = args at C0 ⊢
  have hl : lv_has ls 3 [(0, .int x0)] := hl
  generalize s.heap = H at hH ⊢
  generalize ([] : List Loc) = locs at hH ⊢
  obtain ⟨hx, hb, hml, hr, hown, hts, hA, hK, hX, hlocks⟩ := id C0
  unfold fX11_bits at h
  refine lv_iconst (v := 0) hx hb dX11_bits_0 (by decide) ?_
  refine lv_istore_n (lv' := [(1, .int 0), (0, .int x0)]) hx hb dX11_bits_1 rfl hl (by decide) rfl (fun ls hl => ?_)
  refine lv_iconst (v := 0) hx hb dX11_bits_2 (by decide) ?_
  refine lv_istore_n (lv' := [(2, .int 0), (1, .int 0), (0, .int x0)]) hx hb dX11_bits_3 rfl hl (by decide) rfl (fun ls hl => ?_)
  unfold fX11_bits_b4 at h
  exact tX11_bits_b4 C0  _ _ _ _ _ _ h hH (lv_sub hl [2, 1, 0] rfl)

/-! X11_refuse -/
abbrev wX11_refuse (cI : ClassId) (q q_refused q_tongue q_fresh q_kept q_isKept q_text q_said q_talk : Nat) (m_thrown : Int32) (m_size : Int32) (m_at : Int32) (m_start : Int32) (m_token : Int32) (m_value : Int64) (m_faultAt : Int32) (m_allowed : Int32) (m_firstPair : Int32) (m_secondPair : Int32) (m_above : Int64) (m_below : Int64) (m_refused : Nat → Int32) : va_W := [(q, .inr (11, [.int m_thrown, .ref q_refused, .ref q_tongue, .ref q_fresh, .ref q_kept, .ref q_isKept, .ref q_text, .int m_size, .int m_at, .int m_start, .int m_token, .long m_value, .int m_faultAt, .ref q_said, .ref q_talk, .int m_allowed, .int m_firstPair, .int m_secondPair, .long m_above, .long m_below])), (q_refused, .inl (cI, 3, .inl m_refused))]
abbrev rX11_refuse : Room := { frames := 0, cells := 0, slots := 0, locals := 0 }
def fX11_refuse (N : Nat) (m_refused : Nat → Int32) (x1 : Int32) (x2 : Int32) : Option (Int32 × (Nat → Int32)) := gm_chk x1 3 (gm_chk x1 3 (some (x2, upd m_refused (Int32.toNatClampNeg x1) (((m_refused (Int32.toNatClampNeg x1)) + 1)))))
set_option maxRecDepth 20000 in
theorem inX11_refuse_X11 : ∀ w ∈ u_ws RX11 TX11 20, w ∈ wsX11_refuse := fun w h => by
  obtain ⟨k, hk, rfl⟩ := List.mem_map.mp h
  have hk2 := List.mem_range.mp hk
  exact List.mem_of_getElem? (i := 2 + k) (by rcases (show k = 0 ∨ k = 1 ∨ k = 2 ∨ k = 3 ∨ k = 4 ∨ k = 5 ∨ k = 6 ∨ k = 7 ∨ k = 8 ∨ k = 9 ∨ k = 10 ∨ k = 11 ∨ k = 12 ∨ k = 13 ∨ k = 14 ∨ k = 15 ∨ k = 16 ∨ k = 17 ∨ k = 18 ∨ k = 19 by omega) with rfl | rfl | rfl | rfl | rfl | rfl | rfl | rfl | rfl | rfl | rfl | rfl | rfl | rfl | rfl | rfl | rfl | rfl | rfl | rfl <;> rfl)
set_option maxRecDepth 100000 in
set_option maxHeartbeats 4000000 in
theorem mX11_refuse (l : Launch) (dC : Nat → ClassId) (dI : Nat → Nat → Nat) (cI : ClassId) (q q_refused q_tongue q_fresh q_kept q_isKept q_text q_said q_talk : Nat) (m_thrown : Int32) (m_size : Int32) (m_at : Int32) (m_start : Int32) (m_token : Int32) (m_value : Int64) (m_faultAt : Int32) (m_allowed : Int32) (m_firstPair : Int32) (m_secondPair : Int32) (m_above : Int64) (m_below : Int64) (m_refused : Nat → Int32) (x1 : Int32) (x2 : Int32)  {N : Nat} {out : Int32 × (Nat → Int32)} (h : fX11_refuse N m_refused x1 x2 = some out) : gm_Met l yX11_refuse wsX11_refuse rX11_refuse (dC, dI) [(cI, .int)] gm_T [.ref q, .int x1, .int x2] (wX11_refuse cI q q_refused q_tongue q_fresh q_kept q_isKept q_text q_said q_talk m_thrown m_size m_at m_start m_token m_value m_faultAt m_allowed m_firstPair m_secondPair m_above m_below m_refused) (some (.int out.1)) (wX11_refuse cI q q_refused q_tongue q_fresh q_kept q_isKept q_text q_said q_talk m_thrown m_size m_at m_start m_token m_value m_faultAt m_allowed m_firstPair m_secondPair m_above m_below out.2) := by
  refine gm_ofW (cc := cX11_refuse) (maxL := 3) (ret := (some .int)) (by decide +kernel) rfl (Nat.le_of_ble_eq_true rfl) ?_
  intro p e s m below meth c A C0 hH ls hl
  generalize ([.ref q, .int x1, .int x2] : List Value).toArray = args at C0 ⊢
  have hl : lv_has ls 3 [(0, .ref q), (1, .int x1), (2, .int x2)] := hl
  generalize s.heap = H at hH ⊢
  generalize ([] : List Loc) = locs at hH ⊢
  obtain ⟨hx, hb, hml, hr, hown, hts, hA, hK, hX, hlocks⟩ := id C0
  unfold fX11_refuse at h
  refine lv_aload_n hx hb dX11_refuse_0 rfl (lv_at hl 0 rfl) ?_
  refine gm_get (ci := 11) C0 hH inX11_refuse_X11 0 1 1 rfl rfl (by decide) rfl rfl dX11_refuse_1 ?_
  refine lv_iload_n hx hb dX11_refuse_4 rfl (lv_at hl 1 rfl) ?_
  refine lv_dup2_11 hx hb dX11_refuse_5 rfl rfl ?_
  obtain ⟨hi1, h⟩ := gm_chk_e h
  refine gm_iald C0 hH hi1 1 0 rfl rfl dX11_refuse_6 ?_
  refine lv_iconst (v := 1) hx hb dX11_refuse_7 (by decide) ?_
  refine lv_iadd hx hb dX11_refuse_8 ?_
  obtain ⟨hi2, h⟩ := gm_chk_e h
  refine gm_iast C0 hH hi2 1 0 rfl rfl dX11_refuse_9 (fun H locs hH => ?_)
  have hH : gm_H (dC, dI) A s (wX11_refuse cI q q_refused q_tongue q_fresh q_kept q_isKept q_text q_said q_talk m_thrown m_size m_at m_start m_token m_value m_faultAt m_allowed m_firstPair m_secondPair m_above m_below (upd m_refused (Int32.toNatClampNeg x1) (((m_refused (Int32.toNatClampNeg x1)) + 1)))) H locs := hH
  refine lv_iload_n hx hb dX11_refuse_10 rfl (lv_at hl 2 rfl) ?_
  obtain rfl := Option.some.inj h
  exact gm_iret C0 hH dX11_refuse_11

/-! X11_bad -/
abbrev wX11_bad (cI : ClassId) (q q_refused q_tongue q_fresh q_kept q_isKept q_text q_said q_talk : Nat) (m_thrown : Int32) (m_size : Int32) (m_at : Int32) (m_start : Int32) (m_token : Int32) (m_value : Int64) (m_faultAt : Int32) (m_allowed : Int32) (m_firstPair : Int32) (m_secondPair : Int32) (m_above : Int64) (m_below : Int64) (m_refused : Nat → Int32) : va_W := [(q, .inr (11, [.int m_thrown, .ref q_refused, .ref q_tongue, .ref q_fresh, .ref q_kept, .ref q_isKept, .ref q_text, .int m_size, .int m_at, .int m_start, .int m_token, .long m_value, .int m_faultAt, .ref q_said, .ref q_talk, .int m_allowed, .int m_firstPair, .int m_secondPair, .long m_above, .long m_below])), (q_refused, .inl (cI, 3, .inl m_refused))]
abbrev rX11_bad : Room := { frames := 1, cells := 0, slots := 0, locals := 22 }
def fX11_bad (N : Nat) (m_refused : Nat → Int32)  : Option (Int32 × (Nat → Int32)) := gm_bind (fX11_refuse N m_refused 0 ((-2))) (fun o1 => some (o1.1, o1.2))
set_option maxRecDepth 20000 in
theorem inX11_bad_X11 : ∀ w ∈ u_ws RX11 TX11 20, w ∈ wsX11_bad := fun w h => by
  obtain ⟨k, hk, rfl⟩ := List.mem_map.mp h
  have hk2 := List.mem_range.mp hk
  exact List.mem_of_getElem? (i := 7 + k) (by rcases (show k = 0 ∨ k = 1 ∨ k = 2 ∨ k = 3 ∨ k = 4 ∨ k = 5 ∨ k = 6 ∨ k = 7 ∨ k = 8 ∨ k = 9 ∨ k = 10 ∨ k = 11 ∨ k = 12 ∨ k = 13 ∨ k = 14 ∨ k = 15 ∨ k = 16 ∨ k = 17 ∨ k = 18 ∨ k = 19 by omega) with rfl | rfl | rfl | rfl | rfl | rfl | rfl | rfl | rfl | rfl | rfl | rfl | rfl | rfl | rfl | rfl | rfl | rfl | rfl | rfl <;> rfl)
set_option maxRecDepth 100000 in
set_option maxHeartbeats 4000000 in
theorem mX11_bad (l : Launch) (dC : Nat → ClassId) (dI : Nat → Nat → Nat) (cI : ClassId) (q q_refused q_tongue q_fresh q_kept q_isKept q_text q_said q_talk : Nat) (m_thrown : Int32) (m_size : Int32) (m_at : Int32) (m_start : Int32) (m_token : Int32) (m_value : Int64) (m_faultAt : Int32) (m_allowed : Int32) (m_firstPair : Int32) (m_secondPair : Int32) (m_above : Int64) (m_below : Int64) (m_refused : Nat → Int32)   {N : Nat} {out : Int32 × (Nat → Int32)} (h : fX11_bad N m_refused = some out) : gm_Met l yX11_bad wsX11_bad rX11_bad (dC, dI) [(cI, .int)] gm_T [.ref q] (wX11_bad cI q q_refused q_tongue q_fresh q_kept q_isKept q_text q_said q_talk m_thrown m_size m_at m_start m_token m_value m_faultAt m_allowed m_firstPair m_secondPair m_above m_below m_refused) (some (.int out.1)) (wX11_bad cI q q_refused q_tongue q_fresh q_kept q_isKept q_text q_said q_talk m_thrown m_size m_at m_start m_token m_value m_faultAt m_allowed m_firstPair m_secondPair m_above m_below out.2) := by
  refine gm_ofW (cc := cX11_bad) (maxL := 1) (ret := (some .int)) (by decide +kernel) rfl (Nat.le_of_ble_eq_true rfl) ?_
  intro p e s m below meth c A C0 hH ls hl
  generalize ([.ref q] : List Value).toArray = args at C0 ⊢
  have hl : lv_has ls 1 [(0, .ref q)] := hl
  generalize s.heap = H at hH ⊢
  generalize ([] : List Loc) = locs at hH ⊢
  obtain ⟨hx, hb, hml, hr, hown, hts, hA, hK, hX, hlocks⟩ := id C0
  unfold fX11_bad at h
  refine lv_aload_n hx hb dX11_bad_0 rfl (lv_at hl 0 rfl) ?_
  refine lv_iconst (v := 0) hx hb dX11_bad_1 (by decide) ?_
  refine lv_bipush (v := (-2)) hx hb dX11_bad_2 (by decide) ?_
  obtain ⟨o1, ho1, h⟩ := gm_bind_e h
  refine gm_callV (As := [.int 0, .int (-2)]) (rest := []) (n := 2) (ci := 11) (q0 := 0) C0 hH (mX11_refuse l dC dI cI q q_refused q_tongue q_fresh q_kept q_isKept q_text q_said q_talk m_thrown m_size m_at m_start m_token m_value m_faultAt m_allowed m_firstPair m_secondPair m_above m_below m_refused 0 ((-2))   ho1) gX11_bad_X11_refuse rfl (by decide +kernel) ⟨rfl, rfl, Nat.le_of_ble_eq_true rfl, Nat.le_of_ble_eq_true rfl⟩ gm_T_ok (fun _ => trivial) [0, 1] rfl rfl rfl [0] rfl rfl rfl rfl hl.1 rfl (Nat.le_of_ble_eq_true rfl) dX11_bad_4 ⟨Nat.zero_le _, Nat.zero_le _⟩ (fun H locs hH => ?_)
  have hH : gm_H (dC, dI) A s (wX11_bad cI q q_refused q_tongue q_fresh q_kept q_isKept q_text q_said q_talk m_thrown m_size m_at m_start m_token m_value m_faultAt m_allowed m_firstPair m_secondPair m_above m_below o1.2) H locs := hH
  obtain rfl := Option.some.inj h
  exact gm_iret C0 hH dX11_bad_7

/-! X11_badTen -/
abbrev wX11_badTen (cI : ClassId) (q q_refused q_tongue q_fresh q_kept q_isKept q_text q_said q_talk : Nat) (m_thrown : Int32) (m_size : Int32) (m_at : Int32) (m_start : Int32) (m_token : Int32) (m_value : Int64) (m_faultAt : Int32) (m_allowed : Int32) (m_firstPair : Int32) (m_secondPair : Int32) (m_above : Int64) (m_below : Int64) (m_refused : Nat → Int32) : va_W := [(q, .inr (11, [.int m_thrown, .ref q_refused, .ref q_tongue, .ref q_fresh, .ref q_kept, .ref q_isKept, .ref q_text, .int m_size, .int m_at, .int m_start, .int m_token, .long m_value, .int m_faultAt, .ref q_said, .ref q_talk, .int m_allowed, .int m_firstPair, .int m_secondPair, .long m_above, .long m_below])), (q_refused, .inl (cI, 3, .inl m_refused))]
abbrev rX11_badTen : Room := { frames := 1, cells := 0, slots := 0, locals := 22 }
def fX11_badTen (N : Nat) (m_refused : Nat → Int32)  : Option (Int32 × (Nat → Int32)) := gm_bind (fX11_refuse N m_refused 0 ((-10))) (fun o1 => some (o1.1, o1.2))
set_option maxRecDepth 20000 in
theorem inX11_badTen_X11 : ∀ w ∈ u_ws RX11 TX11 20, w ∈ wsX11_badTen := fun w h => by
  obtain ⟨k, hk, rfl⟩ := List.mem_map.mp h
  have hk2 := List.mem_range.mp hk
  exact List.mem_of_getElem? (i := 7 + k) (by rcases (show k = 0 ∨ k = 1 ∨ k = 2 ∨ k = 3 ∨ k = 4 ∨ k = 5 ∨ k = 6 ∨ k = 7 ∨ k = 8 ∨ k = 9 ∨ k = 10 ∨ k = 11 ∨ k = 12 ∨ k = 13 ∨ k = 14 ∨ k = 15 ∨ k = 16 ∨ k = 17 ∨ k = 18 ∨ k = 19 by omega) with rfl | rfl | rfl | rfl | rfl | rfl | rfl | rfl | rfl | rfl | rfl | rfl | rfl | rfl | rfl | rfl | rfl | rfl | rfl | rfl <;> rfl)
set_option maxRecDepth 100000 in
set_option maxHeartbeats 4000000 in
theorem mX11_badTen (l : Launch) (dC : Nat → ClassId) (dI : Nat → Nat → Nat) (cI : ClassId) (q q_refused q_tongue q_fresh q_kept q_isKept q_text q_said q_talk : Nat) (m_thrown : Int32) (m_size : Int32) (m_at : Int32) (m_start : Int32) (m_token : Int32) (m_value : Int64) (m_faultAt : Int32) (m_allowed : Int32) (m_firstPair : Int32) (m_secondPair : Int32) (m_above : Int64) (m_below : Int64) (m_refused : Nat → Int32)   {N : Nat} {out : Int32 × (Nat → Int32)} (h : fX11_badTen N m_refused = some out) : gm_Met l yX11_badTen wsX11_badTen rX11_badTen (dC, dI) [(cI, .int)] gm_T [.ref q] (wX11_badTen cI q q_refused q_tongue q_fresh q_kept q_isKept q_text q_said q_talk m_thrown m_size m_at m_start m_token m_value m_faultAt m_allowed m_firstPair m_secondPair m_above m_below m_refused) (some (.int out.1)) (wX11_badTen cI q q_refused q_tongue q_fresh q_kept q_isKept q_text q_said q_talk m_thrown m_size m_at m_start m_token m_value m_faultAt m_allowed m_firstPair m_secondPair m_above m_below out.2) := by
  refine gm_ofW (cc := cX11_badTen) (maxL := 1) (ret := (some .int)) (by decide +kernel) rfl (Nat.le_of_ble_eq_true rfl) ?_
  intro p e s m below meth c A C0 hH ls hl
  generalize ([.ref q] : List Value).toArray = args at C0 ⊢
  have hl : lv_has ls 1 [(0, .ref q)] := hl
  generalize s.heap = H at hH ⊢
  generalize ([] : List Loc) = locs at hH ⊢
  obtain ⟨hx, hb, hml, hr, hown, hts, hA, hK, hX, hlocks⟩ := id C0
  unfold fX11_badTen at h
  refine lv_aload_n hx hb dX11_badTen_0 rfl (lv_at hl 0 rfl) ?_
  refine lv_iconst (v := 0) hx hb dX11_badTen_1 (by decide) ?_
  refine lv_bipush (v := (-10)) hx hb dX11_badTen_2 (by decide) ?_
  obtain ⟨o1, ho1, h⟩ := gm_bind_e h
  refine gm_callV (As := [.int 0, .int (-10)]) (rest := []) (n := 2) (ci := 11) (q0 := 0) C0 hH (mX11_refuse l dC dI cI q q_refused q_tongue q_fresh q_kept q_isKept q_text q_said q_talk m_thrown m_size m_at m_start m_token m_value m_faultAt m_allowed m_firstPair m_secondPair m_above m_below m_refused 0 ((-10))   ho1) gX11_badTen_X11_refuse rfl (by decide +kernel) ⟨rfl, rfl, Nat.le_of_ble_eq_true rfl, Nat.le_of_ble_eq_true rfl⟩ gm_T_ok (fun _ => trivial) [0, 1] rfl rfl rfl [0] rfl rfl rfl rfl hl.1 rfl (Nat.le_of_ble_eq_true rfl) dX11_badTen_4 ⟨Nat.zero_le _, Nat.zero_le _⟩ (fun H locs hH => ?_)
  have hH : gm_H (dC, dI) A s (wX11_badTen cI q q_refused q_tongue q_fresh q_kept q_isKept q_text q_said q_talk m_thrown m_size m_at m_start m_token m_value m_faultAt m_allowed m_firstPair m_secondPair m_above m_below o1.2) H locs := hH
  obtain rfl := Option.some.inj h
  exact gm_iret C0 hH dX11_badTen_7

/-! X11_no -/
abbrev wX11_no (cI : ClassId) (q q_refused q_tongue q_fresh q_kept q_isKept q_text q_said q_talk : Nat) (m_thrown : Int32) (m_size : Int32) (m_at : Int32) (m_start : Int32) (m_token : Int32) (m_value : Int64) (m_faultAt : Int32) (m_allowed : Int32) (m_firstPair : Int32) (m_secondPair : Int32) (m_above : Int64) (m_below : Int64) (m_refused : Nat → Int32) : va_W := [(q, .inr (11, [.int m_thrown, .ref q_refused, .ref q_tongue, .ref q_fresh, .ref q_kept, .ref q_isKept, .ref q_text, .int m_size, .int m_at, .int m_start, .int m_token, .long m_value, .int m_faultAt, .ref q_said, .ref q_talk, .int m_allowed, .int m_firstPair, .int m_secondPair, .long m_above, .long m_below])), (q_refused, .inl (cI, 3, .inl m_refused))]
abbrev rX11_no : Room := { frames := 1, cells := 0, slots := 0, locals := 22 }
def fX11_no (N : Nat) (m_refused : Nat → Int32)  : Option (Int32 × (Nat → Int32)) := gm_bind (fX11_refuse N m_refused 1 ((-3))) (fun o1 => some (o1.1, o1.2))
set_option maxRecDepth 20000 in
theorem inX11_no_X11 : ∀ w ∈ u_ws RX11 TX11 20, w ∈ wsX11_no := fun w h => by
  obtain ⟨k, hk, rfl⟩ := List.mem_map.mp h
  have hk2 := List.mem_range.mp hk
  exact List.mem_of_getElem? (i := 7 + k) (by rcases (show k = 0 ∨ k = 1 ∨ k = 2 ∨ k = 3 ∨ k = 4 ∨ k = 5 ∨ k = 6 ∨ k = 7 ∨ k = 8 ∨ k = 9 ∨ k = 10 ∨ k = 11 ∨ k = 12 ∨ k = 13 ∨ k = 14 ∨ k = 15 ∨ k = 16 ∨ k = 17 ∨ k = 18 ∨ k = 19 by omega) with rfl | rfl | rfl | rfl | rfl | rfl | rfl | rfl | rfl | rfl | rfl | rfl | rfl | rfl | rfl | rfl | rfl | rfl | rfl | rfl <;> rfl)
set_option maxRecDepth 100000 in
set_option maxHeartbeats 4000000 in
theorem mX11_no (l : Launch) (dC : Nat → ClassId) (dI : Nat → Nat → Nat) (cI : ClassId) (q q_refused q_tongue q_fresh q_kept q_isKept q_text q_said q_talk : Nat) (m_thrown : Int32) (m_size : Int32) (m_at : Int32) (m_start : Int32) (m_token : Int32) (m_value : Int64) (m_faultAt : Int32) (m_allowed : Int32) (m_firstPair : Int32) (m_secondPair : Int32) (m_above : Int64) (m_below : Int64) (m_refused : Nat → Int32)   {N : Nat} {out : Int32 × (Nat → Int32)} (h : fX11_no N m_refused = some out) : gm_Met l yX11_no wsX11_no rX11_no (dC, dI) [(cI, .int)] gm_T [.ref q] (wX11_no cI q q_refused q_tongue q_fresh q_kept q_isKept q_text q_said q_talk m_thrown m_size m_at m_start m_token m_value m_faultAt m_allowed m_firstPair m_secondPair m_above m_below m_refused) (some (.int out.1)) (wX11_no cI q q_refused q_tongue q_fresh q_kept q_isKept q_text q_said q_talk m_thrown m_size m_at m_start m_token m_value m_faultAt m_allowed m_firstPair m_secondPair m_above m_below out.2) := by
  refine gm_ofW (cc := cX11_no) (maxL := 1) (ret := (some .int)) (by decide +kernel) rfl (Nat.le_of_ble_eq_true rfl) ?_
  intro p e s m below meth c A C0 hH ls hl
  generalize ([.ref q] : List Value).toArray = args at C0 ⊢
  have hl : lv_has ls 1 [(0, .ref q)] := hl
  generalize s.heap = H at hH ⊢
  generalize ([] : List Loc) = locs at hH ⊢
  obtain ⟨hx, hb, hml, hr, hown, hts, hA, hK, hX, hlocks⟩ := id C0
  unfold fX11_no at h
  refine lv_aload_n hx hb dX11_no_0 rfl (lv_at hl 0 rfl) ?_
  refine lv_iconst (v := 1) hx hb dX11_no_1 (by decide) ?_
  refine lv_bipush (v := (-3)) hx hb dX11_no_2 (by decide) ?_
  obtain ⟨o1, ho1, h⟩ := gm_bind_e h
  refine gm_callV (As := [.int 1, .int (-3)]) (rest := []) (n := 2) (ci := 11) (q0 := 0) C0 hH (mX11_refuse l dC dI cI q q_refused q_tongue q_fresh q_kept q_isKept q_text q_said q_talk m_thrown m_size m_at m_start m_token m_value m_faultAt m_allowed m_firstPair m_secondPair m_above m_below m_refused 1 ((-3))   ho1) gX11_no_X11_refuse rfl (by decide +kernel) ⟨rfl, rfl, Nat.le_of_ble_eq_true rfl, Nat.le_of_ble_eq_true rfl⟩ gm_T_ok (fun _ => trivial) [0, 1] rfl rfl rfl [0] rfl rfl rfl rfl hl.1 rfl (Nat.le_of_ble_eq_true rfl) dX11_no_4 ⟨Nat.zero_le _, Nat.zero_le _⟩ (fun H locs hH => ?_)
  have hH : gm_H (dC, dI) A s (wX11_no cI q q_refused q_tongue q_fresh q_kept q_isKept q_text q_said q_talk m_thrown m_size m_at m_start m_token m_value m_faultAt m_allowed m_firstPair m_secondPair m_above m_below o1.2) H locs := hH
  obtain rfl := Option.some.inj h
  exact gm_iret C0 hH dX11_no_7

/-! X11_full -/
abbrev wX11_full (cI : ClassId) (q q_refused q_tongue q_fresh q_kept q_isKept q_text q_said q_talk : Nat) (m_thrown : Int32) (m_size : Int32) (m_at : Int32) (m_start : Int32) (m_token : Int32) (m_value : Int64) (m_faultAt : Int32) (m_allowed : Int32) (m_firstPair : Int32) (m_secondPair : Int32) (m_above : Int64) (m_below : Int64) (m_refused : Nat → Int32) : va_W := [(q, .inr (11, [.int m_thrown, .ref q_refused, .ref q_tongue, .ref q_fresh, .ref q_kept, .ref q_isKept, .ref q_text, .int m_size, .int m_at, .int m_start, .int m_token, .long m_value, .int m_faultAt, .ref q_said, .ref q_talk, .int m_allowed, .int m_firstPair, .int m_secondPair, .long m_above, .long m_below])), (q_refused, .inl (cI, 3, .inl m_refused))]
abbrev rX11_full : Room := { frames := 1, cells := 0, slots := 0, locals := 22 }
def fX11_full (N : Nat) (m_refused : Nat → Int32)  : Option (Int32 × (Nat → Int32)) := gm_bind (fX11_refuse N m_refused 2 ((-4))) (fun o1 => some (o1.1, o1.2))
set_option maxRecDepth 20000 in
theorem inX11_full_X11 : ∀ w ∈ u_ws RX11 TX11 20, w ∈ wsX11_full := fun w h => by
  obtain ⟨k, hk, rfl⟩ := List.mem_map.mp h
  have hk2 := List.mem_range.mp hk
  exact List.mem_of_getElem? (i := 7 + k) (by rcases (show k = 0 ∨ k = 1 ∨ k = 2 ∨ k = 3 ∨ k = 4 ∨ k = 5 ∨ k = 6 ∨ k = 7 ∨ k = 8 ∨ k = 9 ∨ k = 10 ∨ k = 11 ∨ k = 12 ∨ k = 13 ∨ k = 14 ∨ k = 15 ∨ k = 16 ∨ k = 17 ∨ k = 18 ∨ k = 19 by omega) with rfl | rfl | rfl | rfl | rfl | rfl | rfl | rfl | rfl | rfl | rfl | rfl | rfl | rfl | rfl | rfl | rfl | rfl | rfl | rfl <;> rfl)
set_option maxRecDepth 100000 in
set_option maxHeartbeats 4000000 in
theorem mX11_full (l : Launch) (dC : Nat → ClassId) (dI : Nat → Nat → Nat) (cI : ClassId) (q q_refused q_tongue q_fresh q_kept q_isKept q_text q_said q_talk : Nat) (m_thrown : Int32) (m_size : Int32) (m_at : Int32) (m_start : Int32) (m_token : Int32) (m_value : Int64) (m_faultAt : Int32) (m_allowed : Int32) (m_firstPair : Int32) (m_secondPair : Int32) (m_above : Int64) (m_below : Int64) (m_refused : Nat → Int32)   {N : Nat} {out : Int32 × (Nat → Int32)} (h : fX11_full N m_refused = some out) : gm_Met l yX11_full wsX11_full rX11_full (dC, dI) [(cI, .int)] gm_T [.ref q] (wX11_full cI q q_refused q_tongue q_fresh q_kept q_isKept q_text q_said q_talk m_thrown m_size m_at m_start m_token m_value m_faultAt m_allowed m_firstPair m_secondPair m_above m_below m_refused) (some (.int out.1)) (wX11_full cI q q_refused q_tongue q_fresh q_kept q_isKept q_text q_said q_talk m_thrown m_size m_at m_start m_token m_value m_faultAt m_allowed m_firstPair m_secondPair m_above m_below out.2) := by
  refine gm_ofW (cc := cX11_full) (maxL := 1) (ret := (some .int)) (by decide +kernel) rfl (Nat.le_of_ble_eq_true rfl) ?_
  intro p e s m below meth c A C0 hH ls hl
  generalize ([.ref q] : List Value).toArray = args at C0 ⊢
  have hl : lv_has ls 1 [(0, .ref q)] := hl
  generalize s.heap = H at hH ⊢
  generalize ([] : List Loc) = locs at hH ⊢
  obtain ⟨hx, hb, hml, hr, hown, hts, hA, hK, hX, hlocks⟩ := id C0
  unfold fX11_full at h
  refine lv_aload_n hx hb dX11_full_0 rfl (lv_at hl 0 rfl) ?_
  refine lv_iconst (v := 2) hx hb dX11_full_1 (by decide) ?_
  refine lv_bipush (v := (-4)) hx hb dX11_full_2 (by decide) ?_
  obtain ⟨o1, ho1, h⟩ := gm_bind_e h
  refine gm_callV (As := [.int 2, .int (-4)]) (rest := []) (n := 2) (ci := 11) (q0 := 0) C0 hH (mX11_refuse l dC dI cI q q_refused q_tongue q_fresh q_kept q_isKept q_text q_said q_talk m_thrown m_size m_at m_start m_token m_value m_faultAt m_allowed m_firstPair m_secondPair m_above m_below m_refused 2 ((-4))   ho1) gX11_full_X11_refuse rfl (by decide +kernel) ⟨rfl, rfl, Nat.le_of_ble_eq_true rfl, Nat.le_of_ble_eq_true rfl⟩ gm_T_ok (fun _ => trivial) [0, 1] rfl rfl rfl [0] rfl rfl rfl rfl hl.1 rfl (Nat.le_of_ble_eq_true rfl) dX11_full_4 ⟨Nat.zero_le _, Nat.zero_le _⟩ (fun H locs hH => ?_)
  have hH : gm_H (dC, dI) A s (wX11_full cI q q_refused q_tongue q_fresh q_kept q_isKept q_text q_said q_talk m_thrown m_size m_at m_start m_token m_value m_faultAt m_allowed m_firstPair m_secondPair m_above m_below o1.2) H locs := hH
  obtain rfl := Option.some.inj h
  exact gm_iret C0 hH dX11_full_7

/-! X11_noWord -/
abbrev wX11_noWord (cI : ClassId) (q q_tongue q_refused q_fresh q_kept q_isKept q_text q_said q_talk : Nat) (m_thrown : Int32) (m_size : Int32) (m_at : Int32) (m_start : Int32) (m_token : Int32) (m_value : Int64) (m_faultAt : Int32) (m_allowed : Int32) (m_firstPair : Int32) (m_secondPair : Int32) (m_above : Int64) (m_below : Int64) (m_tongue : Nat → Int32) : va_W := [(q, .inr (11, [.int m_thrown, .ref q_refused, .ref q_tongue, .ref q_fresh, .ref q_kept, .ref q_isKept, .ref q_text, .int m_size, .int m_at, .int m_start, .int m_token, .long m_value, .int m_faultAt, .ref q_said, .ref q_talk, .int m_allowed, .int m_firstPair, .int m_secondPair, .long m_above, .long m_below])), (q_tongue, .inl (cI, 73, .inl m_tongue))]
abbrev rX11_noWord : Room := { frames := 1, cells := 0, slots := 0, locals := 25 }
def fX11_noWord (N : Nat) (m_tongue : Nat → Int32) (x1 : Int32) : Option (Int32) := gm_chk 0 73 (gm_bind (fX11_in N ((Int32.toInt64 x1)) 0 ((Int32.toInt64 ((m_tongue (Int32.toNatClampNeg 0)) - 1)))) (fun o2 => (if o2 = 0 then some (1) else some (0))))
set_option maxRecDepth 20000 in
theorem inX11_noWord_X11 : ∀ w ∈ u_ws RX11 TX11 20, w ∈ wsX11_noWord := fun w h => by
  obtain ⟨k, hk, rfl⟩ := List.mem_map.mp h
  have hk2 := List.mem_range.mp hk
  exact List.mem_of_getElem? (i := 6 + k) (by rcases (show k = 0 ∨ k = 1 ∨ k = 2 ∨ k = 3 ∨ k = 4 ∨ k = 5 ∨ k = 6 ∨ k = 7 ∨ k = 8 ∨ k = 9 ∨ k = 10 ∨ k = 11 ∨ k = 12 ∨ k = 13 ∨ k = 14 ∨ k = 15 ∨ k = 16 ∨ k = 17 ∨ k = 18 ∨ k = 19 by omega) with rfl | rfl | rfl | rfl | rfl | rfl | rfl | rfl | rfl | rfl | rfl | rfl | rfl | rfl | rfl | rfl | rfl | rfl | rfl | rfl <;> rfl)
set_option maxRecDepth 100000 in
set_option maxHeartbeats 4000000 in
theorem mX11_noWord (l : Launch) (dC : Nat → ClassId) (dI : Nat → Nat → Nat) (cI : ClassId) (q q_tongue q_refused q_fresh q_kept q_isKept q_text q_said q_talk : Nat) (m_thrown : Int32) (m_size : Int32) (m_at : Int32) (m_start : Int32) (m_token : Int32) (m_value : Int64) (m_faultAt : Int32) (m_allowed : Int32) (m_firstPair : Int32) (m_secondPair : Int32) (m_above : Int64) (m_below : Int64) (m_tongue : Nat → Int32) (x1 : Int32)  {N : Nat} {out : Int32} (h : fX11_noWord N m_tongue x1 = some out) : gm_Met l yX11_noWord wsX11_noWord rX11_noWord (dC, dI) [(cI, .int)] gm_T [.ref q, .int x1] (wX11_noWord cI q q_tongue q_refused q_fresh q_kept q_isKept q_text q_said q_talk m_thrown m_size m_at m_start m_token m_value m_faultAt m_allowed m_firstPair m_secondPair m_above m_below m_tongue) (some (.int out)) (wX11_noWord cI q q_tongue q_refused q_fresh q_kept q_isKept q_text q_said q_talk m_thrown m_size m_at m_start m_token m_value m_faultAt m_allowed m_firstPair m_secondPair m_above m_below m_tongue) := by
  refine gm_ofW (cc := cX11_noWord) (maxL := 2) (ret := (some .boolean)) (by decide +kernel) rfl (Nat.le_of_ble_eq_true rfl) ?_
  intro p e s m below meth c A C0 hH ls hl
  generalize ([.ref q, .int x1] : List Value).toArray = args at C0 ⊢
  have hl : lv_has ls 2 [(0, .ref q), (1, .int x1)] := hl
  generalize s.heap = H at hH ⊢
  generalize ([] : List Loc) = locs at hH ⊢
  obtain ⟨hx, hb, hml, hr, hown, hts, hA, hK, hX, hlocks⟩ := id C0
  unfold fX11_noWord at h
  refine lv_iload_n hx hb dX11_noWord_0 rfl (lv_at hl 1 rfl) ?_
  refine lv_i2l hx hb dX11_noWord_1 rfl ?_
  refine lv_lconst (v := 0) hx hb dX11_noWord_2 (by decide) ?_
  refine lv_aload_n hx hb dX11_noWord_3 rfl (lv_at hl 0 rfl) ?_
  refine gm_get (ci := 11) C0 hH inX11_noWord_X11 0 2 1 rfl rfl (by decide) rfl rfl dX11_noWord_4 ?_
  refine lv_iconst (v := 0) hx hb dX11_noWord_7 (by decide) ?_
  obtain ⟨hi1, h⟩ := gm_chk_e h
  refine gm_iald C0 hH hi1 1 0 rfl rfl dX11_noWord_8 ?_
  refine lv_iconst (v := 1) hx hb dX11_noWord_9 (by decide) ?_
  refine lv_isub hx hb dX11_noWord_10 ?_
  refine lv_i2l hx hb dX11_noWord_11 rfl ?_
  obtain ⟨o2, ho2, h⟩ := gm_bind_e h
  refine gm_callS (As := [.long (Int32.toInt64 x1), .long 0, .long (Int32.toInt64 ((m_tongue (Int32.toNatClampNeg 0)) - 1))]) (rest := []) (n := 3) C0 hH (mX11_in l dC dI    ((Int32.toInt64 x1)) 0 ((Int32.toInt64 ((m_tongue (Int32.toNatClampNeg 0)) - 1)))   ho2) gX11_noWord_X11_in rfl (by decide +kernel) ⟨rfl, rfl, Nat.le_of_ble_eq_true rfl, Nat.le_of_ble_eq_true rfl⟩ gm_T_ok (fun _ => trivial) [] rfl rfl rfl [] rfl rfl hl.1 rfl (Nat.le_of_ble_eq_true rfl) dX11_noWord_12 ⟨Nat.zero_le _, Nat.zero_le _⟩ (fun H locs hH => ?_)
  have hH : gm_H (dC, dI) A s (wX11_noWord cI q q_tongue q_refused q_fresh q_kept q_isKept q_text q_said q_talk m_thrown m_size m_at m_start m_token m_value m_faultAt m_allowed m_firstPair m_secondPair m_above m_below m_tongue) H locs := hH
  refine lv_if_ne (tgt := 22) hx hb dX11_noWord_15 (by decide) (fun hc3 => ?_) (fun hc3 => ?_)
  · replace h := gm_neg hc3 h
    refine lv_iconst (v := 0) hx hb dX11_noWord_22 (by decide) ?_
    obtain rfl := Option.some.inj h
    exact gm_zret C0 hH (show narrow .boolean (.int 0) = .int 0 by decide) dX11_noWord_23
  · replace h := gm_pos hc3 h
    refine lv_iconst (v := 1) hx hb dX11_noWord_18 (by decide) ?_
    refine lv_goto (tgt := 23) hx hb dX11_noWord_19 (by decide) ?_
    obtain rfl := Option.some.inj h
    exact gm_zret C0 hH (show narrow .boolean (.int 1) = .int 1 by decide) dX11_noWord_23

/-! X11_noPerson -/
abbrev wX11_noPerson (cI : ClassId) (q q_tongue q_refused q_fresh q_kept q_isKept q_text q_said q_talk : Nat) (m_thrown : Int32) (m_size : Int32) (m_at : Int32) (m_start : Int32) (m_token : Int32) (m_value : Int64) (m_faultAt : Int32) (m_allowed : Int32) (m_firstPair : Int32) (m_secondPair : Int32) (m_above : Int64) (m_below : Int64) (m_tongue : Nat → Int32) : va_W := [(q, .inr (11, [.int m_thrown, .ref q_refused, .ref q_tongue, .ref q_fresh, .ref q_kept, .ref q_isKept, .ref q_text, .int m_size, .int m_at, .int m_start, .int m_token, .long m_value, .int m_faultAt, .ref q_said, .ref q_talk, .int m_allowed, .int m_firstPair, .int m_secondPair, .long m_above, .long m_below])), (q_tongue, .inl (cI, 73, .inl m_tongue))]
abbrev rX11_noPerson : Room := { frames := 1, cells := 0, slots := 0, locals := 25 }
def fX11_noPerson (N : Nat) (m_tongue : Nat → Int32) (x1 : Int32) : Option (Int32) := gm_chk 1 73 (gm_bind (fX11_in N ((Int32.toInt64 x1)) 0 ((Int32.toInt64 ((m_tongue (Int32.toNatClampNeg 1)) - 1)))) (fun o2 => (if o2 = 0 then some (1) else some (0))))
set_option maxRecDepth 20000 in
theorem inX11_noPerson_X11 : ∀ w ∈ u_ws RX11 TX11 20, w ∈ wsX11_noPerson := fun w h => by
  obtain ⟨k, hk, rfl⟩ := List.mem_map.mp h
  have hk2 := List.mem_range.mp hk
  exact List.mem_of_getElem? (i := 6 + k) (by rcases (show k = 0 ∨ k = 1 ∨ k = 2 ∨ k = 3 ∨ k = 4 ∨ k = 5 ∨ k = 6 ∨ k = 7 ∨ k = 8 ∨ k = 9 ∨ k = 10 ∨ k = 11 ∨ k = 12 ∨ k = 13 ∨ k = 14 ∨ k = 15 ∨ k = 16 ∨ k = 17 ∨ k = 18 ∨ k = 19 by omega) with rfl | rfl | rfl | rfl | rfl | rfl | rfl | rfl | rfl | rfl | rfl | rfl | rfl | rfl | rfl | rfl | rfl | rfl | rfl | rfl <;> rfl)
set_option maxRecDepth 100000 in
set_option maxHeartbeats 4000000 in
theorem mX11_noPerson (l : Launch) (dC : Nat → ClassId) (dI : Nat → Nat → Nat) (cI : ClassId) (q q_tongue q_refused q_fresh q_kept q_isKept q_text q_said q_talk : Nat) (m_thrown : Int32) (m_size : Int32) (m_at : Int32) (m_start : Int32) (m_token : Int32) (m_value : Int64) (m_faultAt : Int32) (m_allowed : Int32) (m_firstPair : Int32) (m_secondPair : Int32) (m_above : Int64) (m_below : Int64) (m_tongue : Nat → Int32) (x1 : Int32)  {N : Nat} {out : Int32} (h : fX11_noPerson N m_tongue x1 = some out) : gm_Met l yX11_noPerson wsX11_noPerson rX11_noPerson (dC, dI) [(cI, .int)] gm_T [.ref q, .int x1] (wX11_noPerson cI q q_tongue q_refused q_fresh q_kept q_isKept q_text q_said q_talk m_thrown m_size m_at m_start m_token m_value m_faultAt m_allowed m_firstPair m_secondPair m_above m_below m_tongue) (some (.int out)) (wX11_noPerson cI q q_tongue q_refused q_fresh q_kept q_isKept q_text q_said q_talk m_thrown m_size m_at m_start m_token m_value m_faultAt m_allowed m_firstPair m_secondPair m_above m_below m_tongue) := by
  refine gm_ofW (cc := cX11_noPerson) (maxL := 2) (ret := (some .boolean)) (by decide +kernel) rfl (Nat.le_of_ble_eq_true rfl) ?_
  intro p e s m below meth c A C0 hH ls hl
  generalize ([.ref q, .int x1] : List Value).toArray = args at C0 ⊢
  have hl : lv_has ls 2 [(0, .ref q), (1, .int x1)] := hl
  generalize s.heap = H at hH ⊢
  generalize ([] : List Loc) = locs at hH ⊢
  obtain ⟨hx, hb, hml, hr, hown, hts, hA, hK, hX, hlocks⟩ := id C0
  unfold fX11_noPerson at h
  refine lv_iload_n hx hb dX11_noPerson_0 rfl (lv_at hl 1 rfl) ?_
  refine lv_i2l hx hb dX11_noPerson_1 rfl ?_
  refine lv_lconst (v := 0) hx hb dX11_noPerson_2 (by decide) ?_
  refine lv_aload_n hx hb dX11_noPerson_3 rfl (lv_at hl 0 rfl) ?_
  refine gm_get (ci := 11) C0 hH inX11_noPerson_X11 0 2 1 rfl rfl (by decide) rfl rfl dX11_noPerson_4 ?_
  refine lv_iconst (v := 1) hx hb dX11_noPerson_7 (by decide) ?_
  obtain ⟨hi1, h⟩ := gm_chk_e h
  refine gm_iald C0 hH hi1 1 0 rfl rfl dX11_noPerson_8 ?_
  refine lv_iconst (v := 1) hx hb dX11_noPerson_9 (by decide) ?_
  refine lv_isub hx hb dX11_noPerson_10 ?_
  refine lv_i2l hx hb dX11_noPerson_11 rfl ?_
  obtain ⟨o2, ho2, h⟩ := gm_bind_e h
  refine gm_callS (As := [.long (Int32.toInt64 x1), .long 0, .long (Int32.toInt64 ((m_tongue (Int32.toNatClampNeg 1)) - 1))]) (rest := []) (n := 3) C0 hH (mX11_in l dC dI    ((Int32.toInt64 x1)) 0 ((Int32.toInt64 ((m_tongue (Int32.toNatClampNeg 1)) - 1)))   ho2) gX11_noPerson_X11_in rfl (by decide +kernel) ⟨rfl, rfl, Nat.le_of_ble_eq_true rfl, Nat.le_of_ble_eq_true rfl⟩ gm_T_ok (fun _ => trivial) [] rfl rfl rfl [] rfl rfl hl.1 rfl (Nat.le_of_ble_eq_true rfl) dX11_noPerson_12 ⟨Nat.zero_le _, Nat.zero_le _⟩ (fun H locs hH => ?_)
  have hH : gm_H (dC, dI) A s (wX11_noPerson cI q q_tongue q_refused q_fresh q_kept q_isKept q_text q_said q_talk m_thrown m_size m_at m_start m_token m_value m_faultAt m_allowed m_firstPair m_secondPair m_above m_below m_tongue) H locs := hH
  refine lv_if_ne (tgt := 22) hx hb dX11_noPerson_15 (by decide) (fun hc3 => ?_) (fun hc3 => ?_)
  · replace h := gm_neg hc3 h
    refine lv_iconst (v := 0) hx hb dX11_noPerson_22 (by decide) ?_
    obtain rfl := Option.some.inj h
    exact gm_zret C0 hH (show narrow .boolean (.int 0) = .int 0 by decide) dX11_noPerson_23
  · replace h := gm_pos hc3 h
    refine lv_iconst (v := 1) hx hb dX11_noPerson_18 (by decide) ?_
    refine lv_goto (tgt := 23) hx hb dX11_noPerson_19 (by decide) ?_
    obtain rfl := Option.some.inj h
    exact gm_zret C0 hH (show narrow .boolean (.int 1) = .int 1 by decide) dX11_noPerson_23

/-! X11_isEnding -/
abbrev rX11_isEnding : Room := { frames := 1, cells := 0, slots := 0, locals := 25 }
def fX11_isEnding (N : Nat)  (x0 : Int32) : Option (Int32) := gm_bind (fX11_in N ((Int32.toInt64 x0)) 0 7) (fun o1 => gm_bl o1 (some (o1)))
set_option maxRecDepth 100000 in
set_option maxHeartbeats 4000000 in
theorem mX11_isEnding (l : Launch) (dC : Nat → ClassId) (dI : Nat → Nat → Nat)  (x0 : Int32)  {N : Nat} {out : Int32} (h : fX11_isEnding N x0 = some out) : gm_Met l yX11_isEnding wsX11_isEnding rX11_isEnding (dC, dI) [] gm_T [.int x0] ([] : va_W) (some (.int out)) ([] : va_W) := by
  refine gm_ofW (cc := cX11_isEnding) (maxL := 1) (ret := (some .boolean)) (by decide +kernel) rfl (Nat.le_of_ble_eq_true rfl) ?_
  intro p e s m below meth c A C0 hH ls hl
  generalize ([.int x0] : List Value).toArray = args at C0 ⊢
  have hl : lv_has ls 1 [(0, .int x0)] := hl
  generalize s.heap = H at hH ⊢
  generalize ([] : List Loc) = locs at hH ⊢
  obtain ⟨hx, hb, hml, hr, hown, hts, hA, hK, hX, hlocks⟩ := id C0
  unfold fX11_isEnding at h
  refine lv_iload_n hx hb dX11_isEnding_0 rfl (lv_at hl 0 rfl) ?_
  refine lv_i2l hx hb dX11_isEnding_1 rfl ?_
  refine lv_lconst (v := 0) hx hb dX11_isEnding_2 (by decide) ?_
  refine lv_ldc2 (own := RX11) (v := 7) hx hb hown (gm_at C0 1 rfl) dX11_isEnding_3 ?_
  obtain ⟨o1, ho1, h⟩ := gm_bind_e h
  refine gm_callS (As := [.long (Int32.toInt64 x0), .long 0, .long 7]) (rest := []) (n := 3) C0 hH (mX11_in l dC dI    ((Int32.toInt64 x0)) 0 7   ho1) gX11_isEnding_X11_in rfl (by decide +kernel) ⟨rfl, rfl, Nat.le_of_ble_eq_true rfl, Nat.le_of_ble_eq_true rfl⟩ gm_T_ok (fun _ => trivial) [] rfl rfl rfl [] rfl rfl hl.1 rfl (Nat.le_of_ble_eq_true rfl) dX11_isEnding_6 ⟨Nat.zero_le _, Nat.zero_le _⟩ (fun H locs hH => ?_)
  have hH : gm_H (dC, dI) A s ([] : va_W) H locs := hH
  obtain ⟨hn2, h⟩ := gm_bl_e h
  obtain rfl := Option.some.inj h
  exact gm_zret C0 hH hn2 dX11_isEnding_9

/-! X11_areMeanings -/
abbrev rX11_areMeanings : Room := { frames := 1, cells := 0, slots := 0, locals := 25 }
def fX11_areMeanings (N : Nat)  (x0 : Int32) : Option (Int32) := gm_bind (fX11_in N ((Int32.toInt64 x0)) 0 255) (fun o1 => gm_bl o1 (some (o1)))
set_option maxRecDepth 100000 in
set_option maxHeartbeats 4000000 in
theorem mX11_areMeanings (l : Launch) (dC : Nat → ClassId) (dI : Nat → Nat → Nat)  (x0 : Int32)  {N : Nat} {out : Int32} (h : fX11_areMeanings N x0 = some out) : gm_Met l yX11_areMeanings wsX11_areMeanings rX11_areMeanings (dC, dI) [] gm_T [.int x0] ([] : va_W) (some (.int out)) ([] : va_W) := by
  refine gm_ofW (cc := cX11_areMeanings) (maxL := 1) (ret := (some .boolean)) (by decide +kernel) rfl (Nat.le_of_ble_eq_true rfl) ?_
  intro p e s m below meth c A C0 hH ls hl
  generalize ([.int x0] : List Value).toArray = args at C0 ⊢
  have hl : lv_has ls 1 [(0, .int x0)] := hl
  generalize s.heap = H at hH ⊢
  generalize ([] : List Loc) = locs at hH ⊢
  obtain ⟨hx, hb, hml, hr, hown, hts, hA, hK, hX, hlocks⟩ := id C0
  unfold fX11_areMeanings at h
  refine lv_iload_n hx hb dX11_areMeanings_0 rfl (lv_at hl 0 rfl) ?_
  refine lv_i2l hx hb dX11_areMeanings_1 rfl ?_
  refine lv_lconst (v := 0) hx hb dX11_areMeanings_2 (by decide) ?_
  refine lv_ldc2 (own := RX11) (v := 255) hx hb hown (gm_at C0 1 rfl) dX11_areMeanings_3 ?_
  obtain ⟨o1, ho1, h⟩ := gm_bind_e h
  refine gm_callS (As := [.long (Int32.toInt64 x0), .long 0, .long 255]) (rest := []) (n := 3) C0 hH (mX11_in l dC dI    ((Int32.toInt64 x0)) 0 255   ho1) gX11_areMeanings_X11_in rfl (by decide +kernel) ⟨rfl, rfl, Nat.le_of_ble_eq_true rfl, Nat.le_of_ble_eq_true rfl⟩ gm_T_ok (fun _ => trivial) [] rfl rfl rfl [] rfl rfl hl.1 rfl (Nat.le_of_ble_eq_true rfl) dX11_areMeanings_6 ⟨Nat.zero_le _, Nat.zero_le _⟩ (fun H locs hH => ?_)
  have hH : gm_H (dC, dI) A s ([] : va_W) H locs := hH
  obtain ⟨hn2, h⟩ := gm_bl_e h
  obtain rfl := Option.some.inj h
  exact gm_zret C0 hH hn2 dX11_areMeanings_9

/-! X11_ending -/
abbrev wX11_ending (cI : ClassId) (q q_tongue q_refused q_fresh q_kept q_isKept q_text q_said q_talk : Nat) (m_thrown : Int32) (m_size : Int32) (m_at : Int32) (m_start : Int32) (m_token : Int32) (m_value : Int64) (m_faultAt : Int32) (m_allowed : Int32) (m_firstPair : Int32) (m_secondPair : Int32) (m_above : Int64) (m_below : Int64) (m_tongue : Nat → Int32) : va_W := [(q, .inr (11, [.int m_thrown, .ref q_refused, .ref q_tongue, .ref q_fresh, .ref q_kept, .ref q_isKept, .ref q_text, .int m_size, .int m_at, .int m_start, .int m_token, .long m_value, .int m_faultAt, .ref q_said, .ref q_talk, .int m_allowed, .int m_firstPair, .int m_secondPair, .long m_above, .long m_below])), (q_tongue, .inl (cI, 73, .inl m_tongue))]
abbrev rX11_ending : Room := { frames := 0, cells := 0, slots := 0, locals := 0 }
def fX11_ending (N : Nat) (m_tongue : Nat → Int32) (x1 : Int32) : Option (Int32) := gm_chk ((5 + (3 * x1))) 73 (some ((m_tongue (Int32.toNatClampNeg ((5 + (3 * x1)))))))
set_option maxRecDepth 20000 in
theorem inX11_ending_X11 : ∀ w ∈ u_ws RX11 TX11 20, w ∈ wsX11_ending := fun w h => by
  obtain ⟨k, hk, rfl⟩ := List.mem_map.mp h
  have hk2 := List.mem_range.mp hk
  exact List.mem_of_getElem? (i := 2 + k) (by rcases (show k = 0 ∨ k = 1 ∨ k = 2 ∨ k = 3 ∨ k = 4 ∨ k = 5 ∨ k = 6 ∨ k = 7 ∨ k = 8 ∨ k = 9 ∨ k = 10 ∨ k = 11 ∨ k = 12 ∨ k = 13 ∨ k = 14 ∨ k = 15 ∨ k = 16 ∨ k = 17 ∨ k = 18 ∨ k = 19 by omega) with rfl | rfl | rfl | rfl | rfl | rfl | rfl | rfl | rfl | rfl | rfl | rfl | rfl | rfl | rfl | rfl | rfl | rfl | rfl | rfl <;> rfl)
set_option maxRecDepth 100000 in
set_option maxHeartbeats 4000000 in
theorem mX11_ending (l : Launch) (dC : Nat → ClassId) (dI : Nat → Nat → Nat) (cI : ClassId) (q q_tongue q_refused q_fresh q_kept q_isKept q_text q_said q_talk : Nat) (m_thrown : Int32) (m_size : Int32) (m_at : Int32) (m_start : Int32) (m_token : Int32) (m_value : Int64) (m_faultAt : Int32) (m_allowed : Int32) (m_firstPair : Int32) (m_secondPair : Int32) (m_above : Int64) (m_below : Int64) (m_tongue : Nat → Int32) (x1 : Int32)  {N : Nat} {out : Int32} (h : fX11_ending N m_tongue x1 = some out) : gm_Met l yX11_ending wsX11_ending rX11_ending (dC, dI) [(cI, .int)] gm_T [.ref q, .int x1] (wX11_ending cI q q_tongue q_refused q_fresh q_kept q_isKept q_text q_said q_talk m_thrown m_size m_at m_start m_token m_value m_faultAt m_allowed m_firstPair m_secondPair m_above m_below m_tongue) (some (.int out)) (wX11_ending cI q q_tongue q_refused q_fresh q_kept q_isKept q_text q_said q_talk m_thrown m_size m_at m_start m_token m_value m_faultAt m_allowed m_firstPair m_secondPair m_above m_below m_tongue) := by
  refine gm_ofW (cc := cX11_ending) (maxL := 2) (ret := (some .int)) (by decide +kernel) rfl (Nat.le_of_ble_eq_true rfl) ?_
  intro p e s m below meth c A C0 hH ls hl
  generalize ([.ref q, .int x1] : List Value).toArray = args at C0 ⊢
  have hl : lv_has ls 2 [(0, .ref q), (1, .int x1)] := hl
  generalize s.heap = H at hH ⊢
  generalize ([] : List Loc) = locs at hH ⊢
  obtain ⟨hx, hb, hml, hr, hown, hts, hA, hK, hX, hlocks⟩ := id C0
  unfold fX11_ending at h
  refine lv_aload_n hx hb dX11_ending_0 rfl (lv_at hl 0 rfl) ?_
  refine gm_get (ci := 11) C0 hH inX11_ending_X11 0 2 1 rfl rfl (by decide) rfl rfl dX11_ending_1 ?_
  refine lv_iconst (v := 5) hx hb dX11_ending_4 (by decide) ?_
  refine lv_iconst (v := 3) hx hb dX11_ending_5 (by decide) ?_
  refine lv_iload_n hx hb dX11_ending_6 rfl (lv_at hl 1 rfl) ?_
  refine lv_imul hx hb dX11_ending_7 ?_
  refine lv_iadd hx hb dX11_ending_8 ?_
  obtain ⟨hi1, h⟩ := gm_chk_e h
  refine gm_iald C0 hH hi1 1 0 rfl rfl dX11_ending_9 ?_
  obtain rfl := Option.some.inj h
  exact gm_iret C0 hH dX11_ending_10

/-! X11_meaning -/
abbrev wX11_meaning (cI : ClassId) (q q_tongue q_refused q_fresh q_kept q_isKept q_text q_said q_talk : Nat) (m_thrown : Int32) (m_size : Int32) (m_at : Int32) (m_start : Int32) (m_token : Int32) (m_value : Int64) (m_faultAt : Int32) (m_allowed : Int32) (m_firstPair : Int32) (m_secondPair : Int32) (m_above : Int64) (m_below : Int64) (m_tongue : Nat → Int32) : va_W := [(q, .inr (11, [.int m_thrown, .ref q_refused, .ref q_tongue, .ref q_fresh, .ref q_kept, .ref q_isKept, .ref q_text, .int m_size, .int m_at, .int m_start, .int m_token, .long m_value, .int m_faultAt, .ref q_said, .ref q_talk, .int m_allowed, .int m_firstPair, .int m_secondPair, .long m_above, .long m_below])), (q_tongue, .inl (cI, 73, .inl m_tongue))]
abbrev rX11_meaning : Room := { frames := 0, cells := 0, slots := 0, locals := 0 }
def fX11_meaning (N : Nat) (m_tongue : Nat → Int32) (x1 : Int32) : Option (Int32) := gm_chk (((5 + (3 * x1)) + 1)) 73 (some ((m_tongue (Int32.toNatClampNeg (((5 + (3 * x1)) + 1))))))
set_option maxRecDepth 20000 in
theorem inX11_meaning_X11 : ∀ w ∈ u_ws RX11 TX11 20, w ∈ wsX11_meaning := fun w h => by
  obtain ⟨k, hk, rfl⟩ := List.mem_map.mp h
  have hk2 := List.mem_range.mp hk
  exact List.mem_of_getElem? (i := 2 + k) (by rcases (show k = 0 ∨ k = 1 ∨ k = 2 ∨ k = 3 ∨ k = 4 ∨ k = 5 ∨ k = 6 ∨ k = 7 ∨ k = 8 ∨ k = 9 ∨ k = 10 ∨ k = 11 ∨ k = 12 ∨ k = 13 ∨ k = 14 ∨ k = 15 ∨ k = 16 ∨ k = 17 ∨ k = 18 ∨ k = 19 by omega) with rfl | rfl | rfl | rfl | rfl | rfl | rfl | rfl | rfl | rfl | rfl | rfl | rfl | rfl | rfl | rfl | rfl | rfl | rfl | rfl <;> rfl)
set_option maxRecDepth 100000 in
set_option maxHeartbeats 4000000 in
theorem mX11_meaning (l : Launch) (dC : Nat → ClassId) (dI : Nat → Nat → Nat) (cI : ClassId) (q q_tongue q_refused q_fresh q_kept q_isKept q_text q_said q_talk : Nat) (m_thrown : Int32) (m_size : Int32) (m_at : Int32) (m_start : Int32) (m_token : Int32) (m_value : Int64) (m_faultAt : Int32) (m_allowed : Int32) (m_firstPair : Int32) (m_secondPair : Int32) (m_above : Int64) (m_below : Int64) (m_tongue : Nat → Int32) (x1 : Int32)  {N : Nat} {out : Int32} (h : fX11_meaning N m_tongue x1 = some out) : gm_Met l yX11_meaning wsX11_meaning rX11_meaning (dC, dI) [(cI, .int)] gm_T [.ref q, .int x1] (wX11_meaning cI q q_tongue q_refused q_fresh q_kept q_isKept q_text q_said q_talk m_thrown m_size m_at m_start m_token m_value m_faultAt m_allowed m_firstPair m_secondPair m_above m_below m_tongue) (some (.int out)) (wX11_meaning cI q q_tongue q_refused q_fresh q_kept q_isKept q_text q_said q_talk m_thrown m_size m_at m_start m_token m_value m_faultAt m_allowed m_firstPair m_secondPair m_above m_below m_tongue) := by
  refine gm_ofW (cc := cX11_meaning) (maxL := 2) (ret := (some .int)) (by decide +kernel) rfl (Nat.le_of_ble_eq_true rfl) ?_
  intro p e s m below meth c A C0 hH ls hl
  generalize ([.ref q, .int x1] : List Value).toArray = args at C0 ⊢
  have hl : lv_has ls 2 [(0, .ref q), (1, .int x1)] := hl
  generalize s.heap = H at hH ⊢
  generalize ([] : List Loc) = locs at hH ⊢
  obtain ⟨hx, hb, hml, hr, hown, hts, hA, hK, hX, hlocks⟩ := id C0
  unfold fX11_meaning at h
  refine lv_aload_n hx hb dX11_meaning_0 rfl (lv_at hl 0 rfl) ?_
  refine gm_get (ci := 11) C0 hH inX11_meaning_X11 0 2 1 rfl rfl (by decide) rfl rfl dX11_meaning_1 ?_
  refine lv_iconst (v := 5) hx hb dX11_meaning_4 (by decide) ?_
  refine lv_iconst (v := 3) hx hb dX11_meaning_5 (by decide) ?_
  refine lv_iload_n hx hb dX11_meaning_6 rfl (lv_at hl 1 rfl) ?_
  refine lv_imul hx hb dX11_meaning_7 ?_
  refine lv_iadd hx hb dX11_meaning_8 ?_
  refine lv_iconst (v := 1) hx hb dX11_meaning_9 (by decide) ?_
  refine lv_iadd hx hb dX11_meaning_10 ?_
  obtain ⟨hi1, h⟩ := gm_chk_e h
  refine gm_iald C0 hH hi1 1 0 rfl rfl dX11_meaning_11 ?_
  obtain rfl := Option.some.inj h
  exact gm_iret C0 hH dX11_meaning_12

/-! X11_kind -/
abbrev wX11_kind (cI : ClassId) (q q_tongue q_refused q_fresh q_kept q_isKept q_text q_said q_talk : Nat) (m_thrown : Int32) (m_size : Int32) (m_at : Int32) (m_start : Int32) (m_token : Int32) (m_value : Int64) (m_faultAt : Int32) (m_allowed : Int32) (m_firstPair : Int32) (m_secondPair : Int32) (m_above : Int64) (m_below : Int64) (m_tongue : Nat → Int32) : va_W := [(q, .inr (11, [.int m_thrown, .ref q_refused, .ref q_tongue, .ref q_fresh, .ref q_kept, .ref q_isKept, .ref q_text, .int m_size, .int m_at, .int m_start, .int m_token, .long m_value, .int m_faultAt, .ref q_said, .ref q_talk, .int m_allowed, .int m_firstPair, .int m_secondPair, .long m_above, .long m_below])), (q_tongue, .inl (cI, 73, .inl m_tongue))]
abbrev rX11_kind : Room := { frames := 0, cells := 0, slots := 0, locals := 0 }
def fX11_kind (N : Nat) (m_tongue : Nat → Int32) (x1 : Int32) : Option (Int32) := gm_chk ((35 + (2 * x1))) 73 (some ((m_tongue (Int32.toNatClampNeg ((35 + (2 * x1)))))))
set_option maxRecDepth 20000 in
theorem inX11_kind_X11 : ∀ w ∈ u_ws RX11 TX11 20, w ∈ wsX11_kind := fun w h => by
  obtain ⟨k, hk, rfl⟩ := List.mem_map.mp h
  have hk2 := List.mem_range.mp hk
  exact List.mem_of_getElem? (i := 2 + k) (by rcases (show k = 0 ∨ k = 1 ∨ k = 2 ∨ k = 3 ∨ k = 4 ∨ k = 5 ∨ k = 6 ∨ k = 7 ∨ k = 8 ∨ k = 9 ∨ k = 10 ∨ k = 11 ∨ k = 12 ∨ k = 13 ∨ k = 14 ∨ k = 15 ∨ k = 16 ∨ k = 17 ∨ k = 18 ∨ k = 19 by omega) with rfl | rfl | rfl | rfl | rfl | rfl | rfl | rfl | rfl | rfl | rfl | rfl | rfl | rfl | rfl | rfl | rfl | rfl | rfl | rfl <;> rfl)
set_option maxRecDepth 100000 in
set_option maxHeartbeats 4000000 in
theorem mX11_kind (l : Launch) (dC : Nat → ClassId) (dI : Nat → Nat → Nat) (cI : ClassId) (q q_tongue q_refused q_fresh q_kept q_isKept q_text q_said q_talk : Nat) (m_thrown : Int32) (m_size : Int32) (m_at : Int32) (m_start : Int32) (m_token : Int32) (m_value : Int64) (m_faultAt : Int32) (m_allowed : Int32) (m_firstPair : Int32) (m_secondPair : Int32) (m_above : Int64) (m_below : Int64) (m_tongue : Nat → Int32) (x1 : Int32)  {N : Nat} {out : Int32} (h : fX11_kind N m_tongue x1 = some out) : gm_Met l yX11_kind wsX11_kind rX11_kind (dC, dI) [(cI, .int)] gm_T [.ref q, .int x1] (wX11_kind cI q q_tongue q_refused q_fresh q_kept q_isKept q_text q_said q_talk m_thrown m_size m_at m_start m_token m_value m_faultAt m_allowed m_firstPair m_secondPair m_above m_below m_tongue) (some (.int out)) (wX11_kind cI q q_tongue q_refused q_fresh q_kept q_isKept q_text q_said q_talk m_thrown m_size m_at m_start m_token m_value m_faultAt m_allowed m_firstPair m_secondPair m_above m_below m_tongue) := by
  refine gm_ofW (cc := cX11_kind) (maxL := 2) (ret := (some .int)) (by decide +kernel) rfl (Nat.le_of_ble_eq_true rfl) ?_
  intro p e s m below meth c A C0 hH ls hl
  generalize ([.ref q, .int x1] : List Value).toArray = args at C0 ⊢
  have hl : lv_has ls 2 [(0, .ref q), (1, .int x1)] := hl
  generalize s.heap = H at hH ⊢
  generalize ([] : List Loc) = locs at hH ⊢
  obtain ⟨hx, hb, hml, hr, hown, hts, hA, hK, hX, hlocks⟩ := id C0
  unfold fX11_kind at h
  refine lv_aload_n hx hb dX11_kind_0 rfl (lv_at hl 0 rfl) ?_
  refine gm_get (ci := 11) C0 hH inX11_kind_X11 0 2 1 rfl rfl (by decide) rfl rfl dX11_kind_1 ?_
  refine lv_bipush (v := 35) hx hb dX11_kind_4 (by decide) ?_
  refine lv_iconst (v := 2) hx hb dX11_kind_6 (by decide) ?_
  refine lv_iload_n hx hb dX11_kind_7 rfl (lv_at hl 1 rfl) ?_
  refine lv_imul hx hb dX11_kind_8 ?_
  refine lv_iadd hx hb dX11_kind_9 ?_
  obtain ⟨hi1, h⟩ := gm_chk_e h
  refine gm_iald C0 hH hi1 1 0 rfl rfl dX11_kind_10 ?_
  obtain rfl := Option.some.inj h
  exact gm_iret C0 hH dX11_kind_11

/-! X11_want -/
abbrev wX11_want (cI : ClassId) (q q_tongue q_refused q_fresh q_kept q_isKept q_text q_said q_talk : Nat) (m_thrown : Int32) (m_size : Int32) (m_at : Int32) (m_start : Int32) (m_token : Int32) (m_value : Int64) (m_faultAt : Int32) (m_allowed : Int32) (m_firstPair : Int32) (m_secondPair : Int32) (m_above : Int64) (m_below : Int64) (m_tongue : Nat → Int32) : va_W := [(q, .inr (11, [.int m_thrown, .ref q_refused, .ref q_tongue, .ref q_fresh, .ref q_kept, .ref q_isKept, .ref q_text, .int m_size, .int m_at, .int m_start, .int m_token, .long m_value, .int m_faultAt, .ref q_said, .ref q_talk, .int m_allowed, .int m_firstPair, .int m_secondPair, .long m_above, .long m_below])), (q_tongue, .inl (cI, 73, .inl m_tongue))]
abbrev rX11_want : Room := { frames := 0, cells := 0, slots := 0, locals := 0 }
def fX11_want (N : Nat) (m_tongue : Nat → Int32) (x1 : Int32) : Option (Int32) := gm_chk (((35 + (2 * x1)) + 1)) 73 (some ((m_tongue (Int32.toNatClampNeg (((35 + (2 * x1)) + 1))))))
set_option maxRecDepth 20000 in
theorem inX11_want_X11 : ∀ w ∈ u_ws RX11 TX11 20, w ∈ wsX11_want := fun w h => by
  obtain ⟨k, hk, rfl⟩ := List.mem_map.mp h
  have hk2 := List.mem_range.mp hk
  exact List.mem_of_getElem? (i := 2 + k) (by rcases (show k = 0 ∨ k = 1 ∨ k = 2 ∨ k = 3 ∨ k = 4 ∨ k = 5 ∨ k = 6 ∨ k = 7 ∨ k = 8 ∨ k = 9 ∨ k = 10 ∨ k = 11 ∨ k = 12 ∨ k = 13 ∨ k = 14 ∨ k = 15 ∨ k = 16 ∨ k = 17 ∨ k = 18 ∨ k = 19 by omega) with rfl | rfl | rfl | rfl | rfl | rfl | rfl | rfl | rfl | rfl | rfl | rfl | rfl | rfl | rfl | rfl | rfl | rfl | rfl | rfl <;> rfl)
set_option maxRecDepth 100000 in
set_option maxHeartbeats 4000000 in
theorem mX11_want (l : Launch) (dC : Nat → ClassId) (dI : Nat → Nat → Nat) (cI : ClassId) (q q_tongue q_refused q_fresh q_kept q_isKept q_text q_said q_talk : Nat) (m_thrown : Int32) (m_size : Int32) (m_at : Int32) (m_start : Int32) (m_token : Int32) (m_value : Int64) (m_faultAt : Int32) (m_allowed : Int32) (m_firstPair : Int32) (m_secondPair : Int32) (m_above : Int64) (m_below : Int64) (m_tongue : Nat → Int32) (x1 : Int32)  {N : Nat} {out : Int32} (h : fX11_want N m_tongue x1 = some out) : gm_Met l yX11_want wsX11_want rX11_want (dC, dI) [(cI, .int)] gm_T [.ref q, .int x1] (wX11_want cI q q_tongue q_refused q_fresh q_kept q_isKept q_text q_said q_talk m_thrown m_size m_at m_start m_token m_value m_faultAt m_allowed m_firstPair m_secondPair m_above m_below m_tongue) (some (.int out)) (wX11_want cI q q_tongue q_refused q_fresh q_kept q_isKept q_text q_said q_talk m_thrown m_size m_at m_start m_token m_value m_faultAt m_allowed m_firstPair m_secondPair m_above m_below m_tongue) := by
  refine gm_ofW (cc := cX11_want) (maxL := 2) (ret := (some .int)) (by decide +kernel) rfl (Nat.le_of_ble_eq_true rfl) ?_
  intro p e s m below meth c A C0 hH ls hl
  generalize ([.ref q, .int x1] : List Value).toArray = args at C0 ⊢
  have hl : lv_has ls 2 [(0, .ref q), (1, .int x1)] := hl
  generalize s.heap = H at hH ⊢
  generalize ([] : List Loc) = locs at hH ⊢
  obtain ⟨hx, hb, hml, hr, hown, hts, hA, hK, hX, hlocks⟩ := id C0
  unfold fX11_want at h
  refine lv_aload_n hx hb dX11_want_0 rfl (lv_at hl 0 rfl) ?_
  refine gm_get (ci := 11) C0 hH inX11_want_X11 0 2 1 rfl rfl (by decide) rfl rfl dX11_want_1 ?_
  refine lv_bipush (v := 35) hx hb dX11_want_4 (by decide) ?_
  refine lv_iconst (v := 2) hx hb dX11_want_6 (by decide) ?_
  refine lv_iload_n hx hb dX11_want_7 rfl (lv_at hl 1 rfl) ?_
  refine lv_imul hx hb dX11_want_8 ?_
  refine lv_iadd hx hb dX11_want_9 ?_
  refine lv_iconst (v := 1) hx hb dX11_want_10 (by decide) ?_
  refine lv_iadd hx hb dX11_want_11 ?_
  obtain ⟨hi1, h⟩ := gm_chk_e h
  refine gm_iald C0 hH hi1 1 0 rfl rfl dX11_want_12 ?_
  obtain rfl := Option.some.inj h
  exact gm_iret C0 hH dX11_want_13

/-! X11_tongue -/
abbrev wX11_tongue (cI : ClassId) (q q_tongue q_refused q_fresh q_kept q_isKept q_text q_said q_talk : Nat) (m_thrown : Int32) (m_size : Int32) (m_at : Int32) (m_start : Int32) (m_token : Int32) (m_value : Int64) (m_faultAt : Int32) (m_allowed : Int32) (m_firstPair : Int32) (m_secondPair : Int32) (m_above : Int64) (m_below : Int64) (m_tongue : Nat → Int32) : va_W := [(q, .inr (11, [.int m_thrown, .ref q_refused, .ref q_tongue, .ref q_fresh, .ref q_kept, .ref q_isKept, .ref q_text, .int m_size, .int m_at, .int m_start, .int m_token, .long m_value, .int m_faultAt, .ref q_said, .ref q_talk, .int m_allowed, .int m_firstPair, .int m_secondPair, .long m_above, .long m_below])), (q_tongue, .inl (cI, 73, .inl m_tongue))]
abbrev rX11_tongue : Room := { frames := 0, cells := 0, slots := 0, locals := 0 }
def fX11_tongue_b14_body (N : Nat)  (m_thrown : Int32) (x1 : Int32) (r14 : (Nat → Int32) → Int32 → Option (Int32 × Int32 × (Nat → Int32))) (m_tongue : Nat → Int32) (x2 : Int32) : Option (Int32 × Int32 × (Nat → Int32)) := (if 73 ≤ x2 then some (x1, m_thrown, m_tongue) else gm_chk x2 73 ((r14 (upd m_tongue (Int32.toNatClampNeg x2) 0) ((x2 + 1)))))
def fX11_tongue_b14 (N : Nat)  (m_thrown : Int32) (x1 : Int32) (m_tongue : Nat → Int32) (x2 : Int32) : Option (Int32 × Int32 × (Nat → Int32)) := gm_fix (fX11_tongue_b14_body N  m_thrown x1) (fun _ _ => none) N m_tongue x2
def fX11_tongue (N : Nat) (m_thrown : Int32) (m_tongue : Nat → Int32)  : Option (Int32 × Int32 × (Nat → Int32)) := gm_chk 0 73 (gm_let ((m_tongue (Int32.toNatClampNeg 0)) : Int32) (fun (v2 : Int32) => (fX11_tongue_b14 N  0 v2 m_tongue 0)))
set_option maxRecDepth 20000 in
theorem inX11_tongue_X11 : ∀ w ∈ u_ws RX11 TX11 20, w ∈ wsX11_tongue := fun w h => by
  obtain ⟨k, hk, rfl⟩ := List.mem_map.mp h
  have hk2 := List.mem_range.mp hk
  exact List.mem_of_getElem? (i := 3 + k) (by rcases (show k = 0 ∨ k = 1 ∨ k = 2 ∨ k = 3 ∨ k = 4 ∨ k = 5 ∨ k = 6 ∨ k = 7 ∨ k = 8 ∨ k = 9 ∨ k = 10 ∨ k = 11 ∨ k = 12 ∨ k = 13 ∨ k = 14 ∨ k = 15 ∨ k = 16 ∨ k = 17 ∨ k = 18 ∨ k = 19 by omega) with rfl | rfl | rfl | rfl | rfl | rfl | rfl | rfl | rfl | rfl | rfl | rfl | rfl | rfl | rfl | rfl | rfl | rfl | rfl | rfl <;> rfl)
set_option maxRecDepth 100000 in
set_option maxHeartbeats 4000000 in
theorem tX11_tongue_b14 {p : Program} {l : Launch} {e : Env} {s : State} {m : MethodId} {args : Array Value} {below : List Frame} {meth : Method} {c : Code} {A : Nat → Prop} {dC : Nat → ClassId} {dI : Nat → Nat → Nat} {cI : ClassId} {q q_tongue q_refused q_fresh q_kept q_isKept q_text q_said q_talk : Nat} {m_thrown : Int32} {m_size : Int32} {m_at : Int32} {m_start : Int32} {m_token : Int32} {m_value : Int64} {m_faultAt : Int32} {m_allowed : Int32} {m_firstPair : Int32} {m_secondPair : Int32} {m_above : Int64} {m_below : Int64} {x1 : Int32} (C0 : gm_C p s m args meth c (dC, dI) [(cI, .int)] A gm_T RX11 cX11_tongue 3 (some .int) wsX11_tongue) {N : Nat} {out : Int32 × Int32 × (Nat → Int32)}   : ∀ (n : Nat), ∀ (m_tongue : Nat → Int32) (x2 : Int32) (H : Heap) (locs : List Loc) (ls : Array Slot), (gm_fix (fX11_tongue_b14_body N  m_thrown x1) (fun _ _ => none) n) m_tongue x2 = some out → gm_H (dC, dI) A s (wX11_tongue cI q q_tongue q_refused q_fresh q_kept q_isKept q_text q_said q_talk m_thrown m_size m_at m_start m_token m_value m_faultAt m_allowed m_firstPair m_secondPair m_above m_below m_tongue) H locs → lv_has ls 3 [(0, .ref q), (1, .int x1), (2, .int x2)] → W p l e rX11_tongue s m args below meth c H locs 0 0 (MQ below (gm_Q (dC, dI) [(cI, .int)] A (some (.int out.1)) (wX11_tongue cI q q_tongue q_refused q_fresh q_kept q_isKept q_text q_said q_talk out.2.1 m_size m_at m_start m_token m_value m_faultAt m_allowed m_firstPair m_secondPair m_above m_below out.2.2)) args s 0 0 A) (F0 m 14 ls []) := by
  obtain ⟨hx, hb, hml, hr, hown, hts, hA, hK, hX, hlocks⟩ := id C0
  intro n
  induction n with
  | zero =>
    intro m_tongue x2 H locs ls h hH hl
    cases h
  | succ n hr14 =>
    intro m_tongue x2 H locs ls h hH hl
    rw [gm_fix_s] at h
    unfold fX11_tongue_b14_body at h
    refine lv_iload_n hx hb dX11_tongue_14 rfl (lv_at hl 2 rfl) ?_
    refine lv_bipush (v := 73) hx hb dX11_tongue_15 (by decide) ?_
    refine lv_icmp_ge (tgt := 33) hx hb dX11_tongue_17 (by decide) (fun hc3 => ?_) (fun hc3 => ?_)
    · replace h := gm_pos hc3 h
      refine lv_iload_n hx hb dX11_tongue_33 rfl (lv_at hl 1 rfl) ?_
      obtain rfl := Option.some.inj h
      exact gm_iret C0 hH dX11_tongue_34
    · replace h := gm_neg hc3 h
      refine lv_aload_n hx hb dX11_tongue_20 rfl (lv_at hl 0 rfl) ?_
      refine gm_get (ci := 11) C0 hH inX11_tongue_X11 0 2 2 rfl rfl (by decide) rfl rfl dX11_tongue_21 ?_
      refine lv_iload_n hx hb dX11_tongue_24 rfl (lv_at hl 2 rfl) ?_
      refine lv_iconst (v := 0) hx hb dX11_tongue_25 (by decide) ?_
      obtain ⟨hi4, h⟩ := gm_chk_e h
      refine gm_iast C0 hH hi4 1 0 rfl rfl dX11_tongue_26 (fun H locs hH => ?_)
      have hH : gm_H (dC, dI) A s (wX11_tongue cI q q_tongue q_refused q_fresh q_kept q_isKept q_text q_said q_talk m_thrown m_size m_at m_start m_token m_value m_faultAt m_allowed m_firstPair m_secondPair m_above m_below (upd m_tongue (Int32.toNatClampNeg x2) 0)) H locs := hH
      refine lv_iinc (v := (x2 + 1)) (lv' := [(2, .int (x2 + 1)), (0, .ref q), (1, .int x1)]) hx hb dX11_tongue_27 hl (k := 2) rfl rfl (by decide) rfl (fun ls hl => ?_)
      refine lv_goto (tgt := 14) hx hb dX11_tongue_30 (by decide) ?_
      exact hr14 _ _ _ _ _ h hH (lv_sub hl [1, 2, 0] rfl)
set_option maxRecDepth 100000 in
set_option maxHeartbeats 4000000 in
theorem mX11_tongue (l : Launch) (dC : Nat → ClassId) (dI : Nat → Nat → Nat) (cI : ClassId) (q q_tongue q_refused q_fresh q_kept q_isKept q_text q_said q_talk : Nat) (m_thrown : Int32) (m_size : Int32) (m_at : Int32) (m_start : Int32) (m_token : Int32) (m_value : Int64) (m_faultAt : Int32) (m_allowed : Int32) (m_firstPair : Int32) (m_secondPair : Int32) (m_above : Int64) (m_below : Int64) (m_tongue : Nat → Int32)   {N : Nat} {out : Int32 × Int32 × (Nat → Int32)} (h : fX11_tongue N m_thrown m_tongue = some out) : gm_Met l yX11_tongue wsX11_tongue rX11_tongue (dC, dI) [(cI, .int)] gm_T [.ref q] (wX11_tongue cI q q_tongue q_refused q_fresh q_kept q_isKept q_text q_said q_talk m_thrown m_size m_at m_start m_token m_value m_faultAt m_allowed m_firstPair m_secondPair m_above m_below m_tongue) (some (.int out.1)) (wX11_tongue cI q q_tongue q_refused q_fresh q_kept q_isKept q_text q_said q_talk out.2.1 m_size m_at m_start m_token m_value m_faultAt m_allowed m_firstPair m_secondPair m_above m_below out.2.2) := by
  refine gm_ofW (cc := cX11_tongue) (maxL := 3) (ret := (some .int)) (by decide +kernel) rfl (Nat.le_of_ble_eq_true rfl) ?_
  intro p e s m below meth c A C0 hH ls hl
  generalize ([.ref q] : List Value).toArray = args at C0 ⊢
  have hl : lv_has ls 3 [(0, .ref q)] := hl
  generalize s.heap = H at hH ⊢
  generalize ([] : List Loc) = locs at hH ⊢
  obtain ⟨hx, hb, hml, hr, hown, hts, hA, hK, hX, hlocks⟩ := id C0
  unfold fX11_tongue at h
  refine lv_aload_n hx hb dX11_tongue_0 rfl (lv_at hl 0 rfl) ?_
  refine lv_iconst (v := 0) hx hb dX11_tongue_1 (by decide) ?_
  refine gm_putf (ci := 11) C0 hH inX11_tongue_X11 tyX11_ok nmX11 0 0 1 rfl rfl (by decide) rfl rfl rfl rfl rfl (Nat.le_of_ble_eq_true rfl) dX11_tongue_2 (fun H locs hH => ?_)
  have hH : gm_H (dC, dI) A s (wX11_tongue cI q q_tongue q_refused q_fresh q_kept q_isKept q_text q_said q_talk 0 m_size m_at m_start m_token m_value m_faultAt m_allowed m_firstPair m_secondPair m_above m_below m_tongue) H locs := hH
  refine lv_aload_n hx hb dX11_tongue_5 rfl (lv_at hl 0 rfl) ?_
  refine gm_get (ci := 11) C0 hH inX11_tongue_X11 0 2 2 rfl rfl (by decide) rfl rfl dX11_tongue_6 ?_
  refine lv_iconst (v := 0) hx hb dX11_tongue_9 (by decide) ?_
  obtain ⟨hi1, h⟩ := gm_chk_e h
  refine gm_iald C0 hH hi1 1 0 rfl rfl dX11_tongue_10 ?_
  refine lv_topi (fun v2 ev2 => ?_)
  replace h := gm_let_e ev2 h
  refine lv_istore_n (lv' := [(1, .int v2), (0, .ref q)]) hx hb dX11_tongue_11 rfl hl (by decide) rfl (fun ls hl => ?_)
  refine lv_iconst (v := 0) hx hb dX11_tongue_12 (by decide) ?_
  refine lv_istore_n (lv' := [(2, .int 0), (1, .int v2), (0, .ref q)]) hx hb dX11_tongue_13 rfl hl (by decide) rfl (fun ls hl => ?_)
  unfold fX11_tongue_b14 at h
  exact tX11_tongue_b14 C0  _ _ _ _ _ _ h hH (lv_sub hl [2, 1, 0] rfl)

/-! X11_addWord -/
abbrev wX11_addWord (cI : ClassId) (q_a0 : Nat) (m_a0 : Nat → Int32) : va_W := [(q_a0, .inl (cI, 73, .inl m_a0))]
abbrev rX11_addWord : Room := { frames := 0, cells := 0, slots := 0, locals := 0 }
def fX11_addWord (N : Nat) (m_a0 : Nat → Int32) (x1 : Int32) (x2 : Int32) (x3 : Int32) : Option ((Nat → Int32)) := gm_chk 0 73 (gm_let ((5 + (3 * (m_a0 (Int32.toNatClampNeg 0)))) : Int32) (fun (v2 : Int32) => gm_chk v2 73 (gm_chk ((v2 + 1)) 73 (gm_chk ((v2 + 2)) 73 (gm_chk 0 73 (gm_chk 0 73 (some (upd (upd (upd (upd m_a0 (Int32.toNatClampNeg v2) x1) (Int32.toNatClampNeg ((v2 + 1))) x2) (Int32.toNatClampNeg ((v2 + 2))) x3) (Int32.toNatClampNeg 0) ((((upd (upd (upd m_a0 (Int32.toNatClampNeg v2) x1) (Int32.toNatClampNeg ((v2 + 1))) x2) (Int32.toNatClampNeg ((v2 + 2))) x3) (Int32.toNatClampNeg 0)) + 1))))))))))
set_option maxRecDepth 100000 in
set_option maxHeartbeats 4000000 in
theorem mX11_addWord (l : Launch) (dC : Nat → ClassId) (dI : Nat → Nat → Nat) (cI : ClassId) (q_a0 : Nat) (m_a0 : Nat → Int32) (x1 : Int32) (x2 : Int32) (x3 : Int32)  {N : Nat} {out : (Nat → Int32)} (h : fX11_addWord N m_a0 x1 x2 x3 = some out) : gm_Met l yX11_addWord wsX11_addWord rX11_addWord (dC, dI) [(cI, .int)] gm_T [.ref q_a0, .int x1, .int x2, .int x3] (wX11_addWord cI q_a0 m_a0) none (wX11_addWord cI q_a0 out) := by
  refine gm_ofW (cc := cX11_addWord) (maxL := 5) (ret := none) (by decide +kernel) rfl (Nat.le_of_ble_eq_true rfl) ?_
  intro p e s m below meth c A C0 hH ls hl
  generalize ([.ref q_a0, .int x1, .int x2, .int x3] : List Value).toArray = args at C0 ⊢
  have hl : lv_has ls 5 [(0, .ref q_a0), (1, .int x1), (2, .int x2), (3, .int x3)] := hl
  generalize s.heap = H at hH ⊢
  generalize ([] : List Loc) = locs at hH ⊢
  obtain ⟨hx, hb, hml, hr, hown, hts, hA, hK, hX, hlocks⟩ := id C0
  unfold fX11_addWord at h
  refine lv_iconst (v := 5) hx hb dX11_addWord_0 (by decide) ?_
  refine lv_iconst (v := 3) hx hb dX11_addWord_1 (by decide) ?_
  refine lv_aload_n hx hb dX11_addWord_2 rfl (lv_at hl 0 rfl) ?_
  refine lv_iconst (v := 0) hx hb dX11_addWord_3 (by decide) ?_
  obtain ⟨hi1, h⟩ := gm_chk_e h
  refine gm_iald C0 hH hi1 0 0 rfl rfl dX11_addWord_4 ?_
  refine lv_imul hx hb dX11_addWord_5 ?_
  refine lv_iadd hx hb dX11_addWord_6 ?_
  refine lv_topi (fun v2 ev2 => ?_)
  replace h := gm_let_e ev2 h
  refine lv_istore (lv' := [(4, .int v2), (0, .ref q_a0), (1, .int x1), (2, .int x2), (3, .int x3)]) hx hb dX11_addWord_7 hl (by decide) rfl (fun ls hl => ?_)
  refine lv_aload_n hx hb dX11_addWord_9 rfl (lv_at hl 1 rfl) ?_
  refine lv_iload hx hb dX11_addWord_10 (lv_at hl 0 rfl) ?_
  refine lv_iload_n hx hb dX11_addWord_12 rfl (lv_at hl 2 rfl) ?_
  obtain ⟨hi3, h⟩ := gm_chk_e h
  refine gm_iast C0 hH hi3 0 0 rfl rfl dX11_addWord_13 (fun H locs hH => ?_)
  have hH : gm_H (dC, dI) A s (wX11_addWord cI q_a0 (upd m_a0 (Int32.toNatClampNeg v2) x1)) H locs := hH
  refine lv_aload_n hx hb dX11_addWord_14 rfl (lv_at hl 1 rfl) ?_
  refine lv_iload hx hb dX11_addWord_15 (lv_at hl 0 rfl) ?_
  refine lv_iconst (v := 1) hx hb dX11_addWord_17 (by decide) ?_
  refine lv_iadd hx hb dX11_addWord_18 ?_
  refine lv_iload_n hx hb dX11_addWord_19 rfl (lv_at hl 3 rfl) ?_
  obtain ⟨hi4, h⟩ := gm_chk_e h
  refine gm_iast C0 hH hi4 0 0 rfl rfl dX11_addWord_20 (fun H locs hH => ?_)
  have hH : gm_H (dC, dI) A s (wX11_addWord cI q_a0 (upd (upd m_a0 (Int32.toNatClampNeg v2) x1) (Int32.toNatClampNeg ((v2 + 1))) x2)) H locs := hH
  refine lv_aload_n hx hb dX11_addWord_21 rfl (lv_at hl 1 rfl) ?_
  refine lv_iload hx hb dX11_addWord_22 (lv_at hl 0 rfl) ?_
  refine lv_iconst (v := 2) hx hb dX11_addWord_24 (by decide) ?_
  refine lv_iadd hx hb dX11_addWord_25 ?_
  refine lv_iload_n hx hb dX11_addWord_26 rfl (lv_at hl 4 rfl) ?_
  obtain ⟨hi5, h⟩ := gm_chk_e h
  refine gm_iast C0 hH hi5 0 0 rfl rfl dX11_addWord_27 (fun H locs hH => ?_)
  have hH : gm_H (dC, dI) A s (wX11_addWord cI q_a0 (upd (upd (upd m_a0 (Int32.toNatClampNeg v2) x1) (Int32.toNatClampNeg ((v2 + 1))) x2) (Int32.toNatClampNeg ((v2 + 2))) x3)) H locs := hH
  refine lv_aload_n hx hb dX11_addWord_28 rfl (lv_at hl 1 rfl) ?_
  refine lv_iconst (v := 0) hx hb dX11_addWord_29 (by decide) ?_
  refine lv_dup2_11 hx hb dX11_addWord_30 rfl rfl ?_
  obtain ⟨hi6, h⟩ := gm_chk_e h
  refine gm_iald C0 hH hi6 0 0 rfl rfl dX11_addWord_31 ?_
  refine lv_iconst (v := 1) hx hb dX11_addWord_32 (by decide) ?_
  refine lv_iadd hx hb dX11_addWord_33 ?_
  obtain ⟨hi7, h⟩ := gm_chk_e h
  refine gm_iast C0 hH hi7 0 0 rfl rfl dX11_addWord_34 (fun H locs hH => ?_)
  have hH : gm_H (dC, dI) A s (wX11_addWord cI q_a0 (upd (upd (upd (upd m_a0 (Int32.toNatClampNeg v2) x1) (Int32.toNatClampNeg ((v2 + 1))) x2) (Int32.toNatClampNeg ((v2 + 2))) x3) (Int32.toNatClampNeg 0) ((((upd (upd (upd m_a0 (Int32.toNatClampNeg v2) x1) (Int32.toNatClampNeg ((v2 + 1))) x2) (Int32.toNatClampNeg ((v2 + 2))) x3) (Int32.toNatClampNeg 0)) + 1)))) H locs := hH
  obtain rfl := Option.some.inj h
  exact gm_vret C0 hH dX11_addWord_35

/-! X11_addPerson -/
abbrev wX11_addPerson (cI : ClassId) (q_a0 : Nat) (m_a0 : Nat → Int32) : va_W := [(q_a0, .inl (cI, 73, .inl m_a0))]
abbrev rX11_addPerson : Room := { frames := 0, cells := 0, slots := 0, locals := 0 }
def fX11_addPerson (N : Nat) (m_a0 : Nat → Int32) (x1 : Int32) (x2 : Int32) : Option ((Nat → Int32)) := gm_chk 1 73 (gm_let ((35 + (2 * (m_a0 (Int32.toNatClampNeg 1)))) : Int32) (fun (v2 : Int32) => gm_chk v2 73 (gm_chk ((v2 + 1)) 73 (gm_chk 1 73 (gm_chk 1 73 (some (upd (upd (upd m_a0 (Int32.toNatClampNeg v2) x1) (Int32.toNatClampNeg ((v2 + 1))) x2) (Int32.toNatClampNeg 1) ((((upd (upd m_a0 (Int32.toNatClampNeg v2) x1) (Int32.toNatClampNeg ((v2 + 1))) x2) (Int32.toNatClampNeg 1)) + 1)))))))))
set_option maxRecDepth 100000 in
set_option maxHeartbeats 4000000 in
theorem mX11_addPerson (l : Launch) (dC : Nat → ClassId) (dI : Nat → Nat → Nat) (cI : ClassId) (q_a0 : Nat) (m_a0 : Nat → Int32) (x1 : Int32) (x2 : Int32)  {N : Nat} {out : (Nat → Int32)} (h : fX11_addPerson N m_a0 x1 x2 = some out) : gm_Met l yX11_addPerson wsX11_addPerson rX11_addPerson (dC, dI) [(cI, .int)] gm_T [.ref q_a0, .int x1, .int x2] (wX11_addPerson cI q_a0 m_a0) none (wX11_addPerson cI q_a0 out) := by
  refine gm_ofW (cc := cX11_addPerson) (maxL := 4) (ret := none) (by decide +kernel) rfl (Nat.le_of_ble_eq_true rfl) ?_
  intro p e s m below meth c A C0 hH ls hl
  generalize ([.ref q_a0, .int x1, .int x2] : List Value).toArray = args at C0 ⊢
  have hl : lv_has ls 4 [(0, .ref q_a0), (1, .int x1), (2, .int x2)] := hl
  generalize s.heap = H at hH ⊢
  generalize ([] : List Loc) = locs at hH ⊢
  obtain ⟨hx, hb, hml, hr, hown, hts, hA, hK, hX, hlocks⟩ := id C0
  unfold fX11_addPerson at h
  refine lv_bipush (v := 35) hx hb dX11_addPerson_0 (by decide) ?_
  refine lv_iconst (v := 2) hx hb dX11_addPerson_2 (by decide) ?_
  refine lv_aload_n hx hb dX11_addPerson_3 rfl (lv_at hl 0 rfl) ?_
  refine lv_iconst (v := 1) hx hb dX11_addPerson_4 (by decide) ?_
  obtain ⟨hi1, h⟩ := gm_chk_e h
  refine gm_iald C0 hH hi1 0 0 rfl rfl dX11_addPerson_5 ?_
  refine lv_imul hx hb dX11_addPerson_6 ?_
  refine lv_iadd hx hb dX11_addPerson_7 ?_
  refine lv_topi (fun v2 ev2 => ?_)
  replace h := gm_let_e ev2 h
  refine lv_istore_n (lv' := [(3, .int v2), (0, .ref q_a0), (1, .int x1), (2, .int x2)]) hx hb dX11_addPerson_8 rfl hl (by decide) rfl (fun ls hl => ?_)
  refine lv_aload_n hx hb dX11_addPerson_9 rfl (lv_at hl 1 rfl) ?_
  refine lv_iload_n hx hb dX11_addPerson_10 rfl (lv_at hl 0 rfl) ?_
  refine lv_iload_n hx hb dX11_addPerson_11 rfl (lv_at hl 2 rfl) ?_
  obtain ⟨hi3, h⟩ := gm_chk_e h
  refine gm_iast C0 hH hi3 0 0 rfl rfl dX11_addPerson_12 (fun H locs hH => ?_)
  have hH : gm_H (dC, dI) A s (wX11_addPerson cI q_a0 (upd m_a0 (Int32.toNatClampNeg v2) x1)) H locs := hH
  refine lv_aload_n hx hb dX11_addPerson_13 rfl (lv_at hl 1 rfl) ?_
  refine lv_iload_n hx hb dX11_addPerson_14 rfl (lv_at hl 0 rfl) ?_
  refine lv_iconst (v := 1) hx hb dX11_addPerson_15 (by decide) ?_
  refine lv_iadd hx hb dX11_addPerson_16 ?_
  refine lv_iload_n hx hb dX11_addPerson_17 rfl (lv_at hl 3 rfl) ?_
  obtain ⟨hi4, h⟩ := gm_chk_e h
  refine gm_iast C0 hH hi4 0 0 rfl rfl dX11_addPerson_18 (fun H locs hH => ?_)
  have hH : gm_H (dC, dI) A s (wX11_addPerson cI q_a0 (upd (upd m_a0 (Int32.toNatClampNeg v2) x1) (Int32.toNatClampNeg ((v2 + 1))) x2)) H locs := hH
  refine lv_aload_n hx hb dX11_addPerson_19 rfl (lv_at hl 1 rfl) ?_
  refine lv_iconst (v := 1) hx hb dX11_addPerson_20 (by decide) ?_
  refine lv_dup2_11 hx hb dX11_addPerson_21 rfl rfl ?_
  obtain ⟨hi5, h⟩ := gm_chk_e h
  refine gm_iald C0 hH hi5 0 0 rfl rfl dX11_addPerson_22 ?_
  refine lv_iconst (v := 1) hx hb dX11_addPerson_23 (by decide) ?_
  refine lv_iadd hx hb dX11_addPerson_24 ?_
  obtain ⟨hi6, h⟩ := gm_chk_e h
  refine gm_iast C0 hH hi6 0 0 rfl rfl dX11_addPerson_25 (fun H locs hH => ?_)
  have hH : gm_H (dC, dI) A s (wX11_addPerson cI q_a0 (upd (upd (upd m_a0 (Int32.toNatClampNeg v2) x1) (Int32.toNatClampNeg ((v2 + 1))) x2) (Int32.toNatClampNeg 1) ((((upd (upd m_a0 (Int32.toNatClampNeg v2) x1) (Int32.toNatClampNeg ((v2 + 1))) x2) (Int32.toNatClampNeg 1)) + 1)))) H locs := hH
  obtain rfl := Option.some.inj h
  exact gm_vret C0 hH dX11_addPerson_26

/-! X11_setAlike -/
abbrev wX11_setAlike (cI : ClassId) (q_a0 : Nat) (m_a0 : Nat → Int32) : va_W := [(q_a0, .inl (cI, 73, .inl m_a0))]
abbrev rX11_setAlike : Room := { frames := 0, cells := 0, slots := 0, locals := 0 }
def fX11_setAlike (N : Nat) (m_a0 : Nat → Int32) (x1 : Int32) (x2 : Int32) (x3 : Int32) : Option ((Nat → Int32)) := gm_chk ((45 + x1)) 73 (gm_chk ((45 + x1)) 73 (gm_chk ((45 + x2)) 73 (gm_chk ((45 + x2)) 73 (some (upd (upd m_a0 (Int32.toNatClampNeg ((45 + x1))) ((((m_a0 (Int32.toNatClampNeg ((45 + x1)))) &&& (((1 : Int32) <<< (x2 &&& 31)) ^^^ (-1))) ||| (x3 <<< (x2 &&& 31))))) (Int32.toNatClampNeg ((45 + x2))) (((((upd m_a0 (Int32.toNatClampNeg ((45 + x1))) ((((m_a0 (Int32.toNatClampNeg ((45 + x1)))) &&& (((1 : Int32) <<< (x2 &&& 31)) ^^^ (-1))) ||| (x3 <<< (x2 &&& 31))))) (Int32.toNatClampNeg ((45 + x2)))) &&& (((1 : Int32) <<< (x1 &&& 31)) ^^^ (-1))) ||| (x3 <<< (x1 &&& 31)))))))))
set_option maxRecDepth 100000 in
set_option maxHeartbeats 4000000 in
theorem mX11_setAlike (l : Launch) (dC : Nat → ClassId) (dI : Nat → Nat → Nat) (cI : ClassId) (q_a0 : Nat) (m_a0 : Nat → Int32) (x1 : Int32) (x2 : Int32) (x3 : Int32)  {N : Nat} {out : (Nat → Int32)} (h : fX11_setAlike N m_a0 x1 x2 x3 = some out) : gm_Met l yX11_setAlike wsX11_setAlike rX11_setAlike (dC, dI) [(cI, .int)] gm_T [.ref q_a0, .int x1, .int x2, .int x3] (wX11_setAlike cI q_a0 m_a0) none (wX11_setAlike cI q_a0 out) := by
  refine gm_ofW (cc := cX11_setAlike) (maxL := 4) (ret := none) (by decide +kernel) rfl (Nat.le_of_ble_eq_true rfl) ?_
  intro p e s m below meth c A C0 hH ls hl
  generalize ([.ref q_a0, .int x1, .int x2, .int x3] : List Value).toArray = args at C0 ⊢
  have hl : lv_has ls 4 [(0, .ref q_a0), (1, .int x1), (2, .int x2), (3, .int x3)] := hl
  generalize s.heap = H at hH ⊢
  generalize ([] : List Loc) = locs at hH ⊢
  obtain ⟨hx, hb, hml, hr, hown, hts, hA, hK, hX, hlocks⟩ := id C0
  unfold fX11_setAlike at h
  refine lv_aload_n hx hb dX11_setAlike_0 rfl (lv_at hl 0 rfl) ?_
  refine lv_bipush (v := 45) hx hb dX11_setAlike_1 (by decide) ?_
  refine lv_iload_n hx hb dX11_setAlike_3 rfl (lv_at hl 1 rfl) ?_
  refine lv_iadd hx hb dX11_setAlike_4 ?_
  refine lv_aload_n hx hb dX11_setAlike_5 rfl (lv_at hl 0 rfl) ?_
  refine lv_bipush (v := 45) hx hb dX11_setAlike_6 (by decide) ?_
  refine lv_iload_n hx hb dX11_setAlike_8 rfl (lv_at hl 1 rfl) ?_
  refine lv_iadd hx hb dX11_setAlike_9 ?_
  obtain ⟨hi1, h⟩ := gm_chk_e h
  refine gm_iald C0 hH hi1 0 0 rfl rfl dX11_setAlike_10 ?_
  refine lv_iconst (v := 1) hx hb dX11_setAlike_11 (by decide) ?_
  refine lv_iload_n hx hb dX11_setAlike_12 rfl (lv_at hl 2 rfl) ?_
  refine lv_ishl hx hb dX11_setAlike_13 ?_
  refine lv_iconst (v := (-1)) hx hb dX11_setAlike_14 (by decide) ?_
  refine lv_ixor hx hb dX11_setAlike_15 ?_
  refine lv_iand hx hb dX11_setAlike_16 ?_
  refine lv_iload_n hx hb dX11_setAlike_17 rfl (lv_at hl 3 rfl) ?_
  refine lv_iload_n hx hb dX11_setAlike_18 rfl (lv_at hl 2 rfl) ?_
  refine lv_ishl hx hb dX11_setAlike_19 ?_
  refine lv_ior hx hb dX11_setAlike_20 ?_
  obtain ⟨hi2, h⟩ := gm_chk_e h
  refine gm_iast C0 hH hi2 0 0 rfl rfl dX11_setAlike_21 (fun H locs hH => ?_)
  have hH : gm_H (dC, dI) A s (wX11_setAlike cI q_a0 (upd m_a0 (Int32.toNatClampNeg ((45 + x1))) ((((m_a0 (Int32.toNatClampNeg ((45 + x1)))) &&& (((1 : Int32) <<< (x2 &&& 31)) ^^^ (-1))) ||| (x3 <<< (x2 &&& 31)))))) H locs := hH
  refine lv_aload_n hx hb dX11_setAlike_22 rfl (lv_at hl 0 rfl) ?_
  refine lv_bipush (v := 45) hx hb dX11_setAlike_23 (by decide) ?_
  refine lv_iload_n hx hb dX11_setAlike_25 rfl (lv_at hl 2 rfl) ?_
  refine lv_iadd hx hb dX11_setAlike_26 ?_
  refine lv_aload_n hx hb dX11_setAlike_27 rfl (lv_at hl 0 rfl) ?_
  refine lv_bipush (v := 45) hx hb dX11_setAlike_28 (by decide) ?_
  refine lv_iload_n hx hb dX11_setAlike_30 rfl (lv_at hl 2 rfl) ?_
  refine lv_iadd hx hb dX11_setAlike_31 ?_
  obtain ⟨hi3, h⟩ := gm_chk_e h
  refine gm_iald C0 hH hi3 0 0 rfl rfl dX11_setAlike_32 ?_
  refine lv_iconst (v := 1) hx hb dX11_setAlike_33 (by decide) ?_
  refine lv_iload_n hx hb dX11_setAlike_34 rfl (lv_at hl 1 rfl) ?_
  refine lv_ishl hx hb dX11_setAlike_35 ?_
  refine lv_iconst (v := (-1)) hx hb dX11_setAlike_36 (by decide) ?_
  refine lv_ixor hx hb dX11_setAlike_37 ?_
  refine lv_iand hx hb dX11_setAlike_38 ?_
  refine lv_iload_n hx hb dX11_setAlike_39 rfl (lv_at hl 3 rfl) ?_
  refine lv_iload_n hx hb dX11_setAlike_40 rfl (lv_at hl 1 rfl) ?_
  refine lv_ishl hx hb dX11_setAlike_41 ?_
  refine lv_ior hx hb dX11_setAlike_42 ?_
  obtain ⟨hi4, h⟩ := gm_chk_e h
  refine gm_iast C0 hH hi4 0 0 rfl rfl dX11_setAlike_43 (fun H locs hH => ?_)
  have hH : gm_H (dC, dI) A s (wX11_setAlike cI q_a0 (upd (upd m_a0 (Int32.toNatClampNeg ((45 + x1))) ((((m_a0 (Int32.toNatClampNeg ((45 + x1)))) &&& (((1 : Int32) <<< (x2 &&& 31)) ^^^ (-1))) ||| (x3 <<< (x2 &&& 31))))) (Int32.toNatClampNeg ((45 + x2))) (((((upd m_a0 (Int32.toNatClampNeg ((45 + x1))) ((((m_a0 (Int32.toNatClampNeg ((45 + x1)))) &&& (((1 : Int32) <<< (x2 &&& 31)) ^^^ (-1))) ||| (x3 <<< (x2 &&& 31))))) (Int32.toNatClampNeg ((45 + x2)))) &&& (((1 : Int32) <<< (x1 &&& 31)) ^^^ (-1))) ||| (x3 <<< (x1 &&& 31)))))) H locs := hH
  obtain rfl := Option.some.inj h
  exact gm_vret C0 hH dX11_setAlike_44

/-! X11_word -/
abbrev wX11_word (cI : ClassId) (q q_refused q_tongue q_fresh q_kept q_isKept q_text q_said q_talk : Nat) (m_thrown : Int32) (m_size : Int32) (m_at : Int32) (m_start : Int32) (m_token : Int32) (m_value : Int64) (m_faultAt : Int32) (m_allowed : Int32) (m_firstPair : Int32) (m_secondPair : Int32) (m_above : Int64) (m_below : Int64) (m_refused : Nat → Int32) (m_tongue : Nat → Int32) : va_W := [(q, .inr (11, [.int m_thrown, .ref q_refused, .ref q_tongue, .ref q_fresh, .ref q_kept, .ref q_isKept, .ref q_text, .int m_size, .int m_at, .int m_start, .int m_token, .long m_value, .int m_faultAt, .ref q_said, .ref q_talk, .int m_allowed, .int m_firstPair, .int m_secondPair, .long m_above, .long m_below])), (q_refused, .inl (cI, 3, .inl m_refused)), (q_tongue, .inl (cI, 73, .inl m_tongue))]
abbrev rX11_word : Room := { frames := 2, cells := 0, slots := 0, locals := 45 }
def fX11_word_b36 (N : Nat)  (m_thrown : Int32) (m_refused : Nat → Int32) (m_tongue : Nat → Int32) : Option (Int32 × Int32 × (Nat → Int32) × (Nat → Int32)) := gm_bind (fX11_bad N m_refused) (fun o3 => some (o3.1, m_thrown, o3.2, m_tongue))
def fX11_word (N : Nat) (m_thrown : Int32) (m_refused : Nat → Int32) (m_tongue : Nat → Int32) (x1 : Int32) (x2 : Int32) (x3 : Int32) : Option (Int32 × Int32 × (Nat → Int32) × (Nat → Int32)) := gm_bind (fX11_isEnding N x1) (fun o1 => (if o1 = 0 then (fX11_word_b36 N  0 m_refused m_tongue) else gm_bind (fX11_in N ((Int32.toInt64 x2)) 0 7) (fun o4 => (if o4 = 0 then (fX11_word_b36 N  0 m_refused m_tongue) else gm_bind (fX11_in N ((Int32.toInt64 x3)) 0 20) (fun o6 => (if o6 = 0 then (fX11_word_b36 N  0 m_refused m_tongue) else gm_chk 0 73 ((if (m_tongue (Int32.toNatClampNeg 0)) = 10 then gm_bind (fX11_full N m_refused) (fun o13 => some (o13.1, 0, o13.2, m_tongue)) else gm_bind (fX11_addWord N m_tongue x1 x2 x3) (fun o10 => gm_chk 4 73 (gm_chk 0 73 (some ((((upd o10 (Int32.toNatClampNeg 4) 0) (Int32.toNatClampNeg 0)) - 1), 0, m_refused, upd o10 (Int32.toNatClampNeg 4) 0))))))))))))
set_option maxRecDepth 20000 in
theorem inX11_word_X11 : ∀ w ∈ u_ws RX11 TX11 20, w ∈ wsX11_word := fun w h => by
  obtain ⟨k, hk, rfl⟩ := List.mem_map.mp h
  have hk2 := List.mem_range.mp hk
  exact List.mem_of_getElem? (i := 28 + k) (by rcases (show k = 0 ∨ k = 1 ∨ k = 2 ∨ k = 3 ∨ k = 4 ∨ k = 5 ∨ k = 6 ∨ k = 7 ∨ k = 8 ∨ k = 9 ∨ k = 10 ∨ k = 11 ∨ k = 12 ∨ k = 13 ∨ k = 14 ∨ k = 15 ∨ k = 16 ∨ k = 17 ∨ k = 18 ∨ k = 19 by omega) with rfl | rfl | rfl | rfl | rfl | rfl | rfl | rfl | rfl | rfl | rfl | rfl | rfl | rfl | rfl | rfl | rfl | rfl | rfl | rfl <;> rfl)
set_option maxRecDepth 100000 in
set_option maxHeartbeats 4000000 in
theorem tX11_word_b36 {p : Program} {l : Launch} {e : Env} {s : State} {m : MethodId} {args : Array Value} {below : List Frame} {meth : Method} {c : Code} {A : Nat → Prop} {dC : Nat → ClassId} {dI : Nat → Nat → Nat} {cI : ClassId} {q q_refused q_tongue q_fresh q_kept q_isKept q_text q_said q_talk : Nat} {m_thrown : Int32} {m_size : Int32} {m_at : Int32} {m_start : Int32} {m_token : Int32} {m_value : Int64} {m_faultAt : Int32} {m_allowed : Int32} {m_firstPair : Int32} {m_secondPair : Int32} {m_above : Int64} {m_below : Int64} {m_refused : Nat → Int32} {m_tongue : Nat → Int32} (C0 : gm_C p s m args meth c (dC, dI) [(cI, .int)] A gm_T RX11 cX11_word 4 (some .int) wsX11_word) {N : Nat} {out : Int32 × Int32 × (Nat → Int32) × (Nat → Int32)}    {H : Heap} {locs : List Loc} {ls : Array Slot} (h : fX11_word_b36 N  m_thrown m_refused m_tongue = some out) (hH : gm_H (dC, dI) A s (wX11_word cI q q_refused q_tongue q_fresh q_kept q_isKept q_text q_said q_talk m_thrown m_size m_at m_start m_token m_value m_faultAt m_allowed m_firstPair m_secondPair m_above m_below m_refused m_tongue) H locs) (hl : lv_has ls 4 [(0, .ref q)]) : W p l e rX11_word s m args below meth c H locs 0 0 (MQ below (gm_Q (dC, dI) [(cI, .int)] A (some (.int out.1)) (wX11_word cI q q_refused q_tongue q_fresh q_kept q_isKept q_text q_said q_talk out.2.1 m_size m_at m_start m_token m_value m_faultAt m_allowed m_firstPair m_secondPair m_above m_below out.2.2.1 out.2.2.2)) args s 0 0 A) (F0 m 36 ls []) := by
  obtain ⟨hx, hb, hml, hr, hown, hts, hA, hK, hX, hlocks⟩ := id C0
  unfold fX11_word_b36 at h
  refine lv_aload_n hx hb dX11_word_36 rfl (lv_at hl 0 rfl) ?_
  obtain ⟨o3, ho3, h⟩ := gm_bind_e h
  refine gm_callV (As := []) (rest := []) (n := 0) (ci := 11) (q0 := 0) C0 hH (mX11_bad l dC dI cI q q_refused q_tongue q_fresh q_kept q_isKept q_text q_said q_talk m_thrown m_size m_at m_start m_token m_value m_faultAt m_allowed m_firstPair m_secondPair m_above m_below m_refused    ho3) gX11_word_X11_bad rfl (by decide +kernel) ⟨rfl, rfl, Nat.le_of_ble_eq_true rfl, Nat.le_of_ble_eq_true rfl⟩ gm_T_ok (fun _ => trivial) [0, 1] rfl rfl rfl [0] rfl rfl rfl rfl hl.1 rfl (Nat.le_of_ble_eq_true rfl) dX11_word_37 ⟨Nat.zero_le _, Nat.zero_le _⟩ (fun H locs hH => ?_)
  have hH : gm_H (dC, dI) A s (wX11_word cI q q_refused q_tongue q_fresh q_kept q_isKept q_text q_said q_talk m_thrown m_size m_at m_start m_token m_value m_faultAt m_allowed m_firstPair m_secondPair m_above m_below o3.2 m_tongue) H locs := hH
  obtain rfl := Option.some.inj h
  exact gm_iret C0 hH dX11_word_40
set_option maxRecDepth 100000 in
set_option maxHeartbeats 4000000 in
theorem mX11_word (l : Launch) (dC : Nat → ClassId) (dI : Nat → Nat → Nat) (cI : ClassId) (q q_refused q_tongue q_fresh q_kept q_isKept q_text q_said q_talk : Nat) (m_thrown : Int32) (m_size : Int32) (m_at : Int32) (m_start : Int32) (m_token : Int32) (m_value : Int64) (m_faultAt : Int32) (m_allowed : Int32) (m_firstPair : Int32) (m_secondPair : Int32) (m_above : Int64) (m_below : Int64) (m_refused : Nat → Int32) (m_tongue : Nat → Int32) (x1 : Int32) (x2 : Int32) (x3 : Int32)  {N : Nat} {out : Int32 × Int32 × (Nat → Int32) × (Nat → Int32)} (h : fX11_word N m_thrown m_refused m_tongue x1 x2 x3 = some out) : gm_Met l yX11_word wsX11_word rX11_word (dC, dI) [(cI, .int)] gm_T [.ref q, .int x1, .int x2, .int x3] (wX11_word cI q q_refused q_tongue q_fresh q_kept q_isKept q_text q_said q_talk m_thrown m_size m_at m_start m_token m_value m_faultAt m_allowed m_firstPair m_secondPair m_above m_below m_refused m_tongue) (some (.int out.1)) (wX11_word cI q q_refused q_tongue q_fresh q_kept q_isKept q_text q_said q_talk out.2.1 m_size m_at m_start m_token m_value m_faultAt m_allowed m_firstPair m_secondPair m_above m_below out.2.2.1 out.2.2.2) := by
  refine gm_ofW (cc := cX11_word) (maxL := 4) (ret := (some .int)) (by decide +kernel) rfl (Nat.le_of_ble_eq_true rfl) ?_
  intro p e s m below meth c A C0 hH ls hl
  generalize ([.ref q, .int x1, .int x2, .int x3] : List Value).toArray = args at C0 ⊢
  have hl : lv_has ls 4 [(0, .ref q), (1, .int x1), (2, .int x2), (3, .int x3)] := hl
  generalize s.heap = H at hH ⊢
  generalize ([] : List Loc) = locs at hH ⊢
  obtain ⟨hx, hb, hml, hr, hown, hts, hA, hK, hX, hlocks⟩ := id C0
  unfold fX11_word at h
  refine lv_aload_n hx hb dX11_word_0 rfl (lv_at hl 0 rfl) ?_
  refine lv_iconst (v := 0) hx hb dX11_word_1 (by decide) ?_
  refine gm_putf (ci := 11) C0 hH inX11_word_X11 tyX11_ok nmX11 0 0 1 rfl rfl (by decide) rfl rfl rfl rfl rfl (Nat.le_of_ble_eq_true rfl) dX11_word_2 (fun H locs hH => ?_)
  have hH : gm_H (dC, dI) A s (wX11_word cI q q_refused q_tongue q_fresh q_kept q_isKept q_text q_said q_talk 0 m_size m_at m_start m_token m_value m_faultAt m_allowed m_firstPair m_secondPair m_above m_below m_refused m_tongue) H locs := hH
  refine lv_iload_n hx hb dX11_word_5 rfl (lv_at hl 1 rfl) ?_
  obtain ⟨o1, ho1, h⟩ := gm_bind_e h
  refine gm_callS (As := [.int x1]) (rest := []) (n := 1) C0 hH (mX11_isEnding l dC dI    x1   ho1) gX11_word_X11_isEnding rfl (by decide +kernel) ⟨rfl, rfl, Nat.le_of_ble_eq_true rfl, Nat.le_of_ble_eq_true rfl⟩ gm_T_ok (fun _ => trivial) [] rfl rfl rfl [] rfl rfl hl.1 rfl (Nat.le_of_ble_eq_true rfl) dX11_word_6 ⟨Nat.zero_le _, Nat.zero_le _⟩ (fun H locs hH => ?_)
  have hH : gm_H (dC, dI) A s (wX11_word cI q q_refused q_tongue q_fresh q_kept q_isKept q_text q_said q_talk 0 m_size m_at m_start m_token m_value m_faultAt m_allowed m_firstPair m_secondPair m_above m_below m_refused m_tongue) H locs := hH
  refine lv_if_eq (tgt := 36) hx hb dX11_word_9 (by decide) (fun hc2 => ?_) (fun hc2 => ?_)
  · replace h := gm_pos hc2 h
    exact tX11_word_b36 C0  h hH (lv_sub hl [0] rfl)
  · replace h := gm_neg hc2 h
    refine lv_iload_n hx hb dX11_word_12 rfl (lv_at hl 2 rfl) ?_
    refine lv_i2l hx hb dX11_word_13 rfl ?_
    refine lv_lconst (v := 0) hx hb dX11_word_14 (by decide) ?_
    refine lv_ldc2 (own := RX11) (v := 7) hx hb hown (gm_at C0 2 rfl) dX11_word_15 ?_
    obtain ⟨o4, ho4, h⟩ := gm_bind_e h
    refine gm_callS (As := [.long (Int32.toInt64 x2), .long 0, .long 7]) (rest := []) (n := 3) C0 hH (mX11_in l dC dI    ((Int32.toInt64 x2)) 0 7   ho4) gX11_word_X11_in rfl (by decide +kernel) ⟨rfl, rfl, Nat.le_of_ble_eq_true rfl, Nat.le_of_ble_eq_true rfl⟩ gm_T_ok (fun _ => trivial) [] rfl rfl rfl [] rfl rfl hl.1 rfl (Nat.le_of_ble_eq_true rfl) dX11_word_18 ⟨Nat.zero_le _, Nat.zero_le _⟩ (fun H locs hH => ?_)
    have hH : gm_H (dC, dI) A s (wX11_word cI q q_refused q_tongue q_fresh q_kept q_isKept q_text q_said q_talk 0 m_size m_at m_start m_token m_value m_faultAt m_allowed m_firstPair m_secondPair m_above m_below m_refused m_tongue) H locs := hH
    refine lv_if_eq (tgt := 36) hx hb dX11_word_21 (by decide) (fun hc5 => ?_) (fun hc5 => ?_)
    · replace h := gm_pos hc5 h
      exact tX11_word_b36 C0  h hH (lv_sub hl [0] rfl)
    · replace h := gm_neg hc5 h
      refine lv_iload_n hx hb dX11_word_24 rfl (lv_at hl 3 rfl) ?_
      refine lv_i2l hx hb dX11_word_25 rfl ?_
      refine lv_lconst (v := 0) hx hb dX11_word_26 (by decide) ?_
      refine lv_ldc2 (own := RX11) (v := 20) hx hb hown (gm_at C0 3 rfl) dX11_word_27 ?_
      obtain ⟨o6, ho6, h⟩ := gm_bind_e h
      refine gm_callS (As := [.long (Int32.toInt64 x3), .long 0, .long 20]) (rest := []) (n := 3) C0 hH (mX11_in l dC dI    ((Int32.toInt64 x3)) 0 20   ho6) gX11_word_X11_in rfl (by decide +kernel) ⟨rfl, rfl, Nat.le_of_ble_eq_true rfl, Nat.le_of_ble_eq_true rfl⟩ gm_T_ok (fun _ => trivial) [] rfl rfl rfl [] rfl rfl hl.1 rfl (Nat.le_of_ble_eq_true rfl) dX11_word_30 ⟨Nat.zero_le _, Nat.zero_le _⟩ (fun H locs hH => ?_)
      have hH : gm_H (dC, dI) A s (wX11_word cI q q_refused q_tongue q_fresh q_kept q_isKept q_text q_said q_talk 0 m_size m_at m_start m_token m_value m_faultAt m_allowed m_firstPair m_secondPair m_above m_below m_refused m_tongue) H locs := hH
      refine lv_if_ne (tgt := 41) hx hb dX11_word_33 (by decide) (fun hc7 => ?_) (fun hc7 => ?_)
      · replace h := gm_neg hc7 h
        refine lv_aload_n hx hb dX11_word_41 rfl (lv_at hl 0 rfl) ?_
        refine gm_get (ci := 11) C0 hH inX11_word_X11 0 2 4 rfl rfl (by decide) rfl rfl dX11_word_42 ?_
        refine lv_iconst (v := 0) hx hb dX11_word_45 (by decide) ?_
        obtain ⟨hi8, h⟩ := gm_chk_e h
        refine gm_iald C0 hH hi8 2 0 rfl rfl dX11_word_46 ?_
        refine lv_bipush (v := 10) hx hb dX11_word_47 (by decide) ?_
        refine lv_icmp_ne (tgt := 57) hx hb dX11_word_49 (by decide) (fun hc9 => ?_) (fun hc9 => ?_)
        · replace h := gm_neg hc9 h
          refine lv_aload_n hx hb dX11_word_57 rfl (lv_at hl 0 rfl) ?_
          refine gm_get (ci := 11) C0 hH inX11_word_X11 0 2 4 rfl rfl (by decide) rfl rfl dX11_word_58 ?_
          refine lv_iload_n hx hb dX11_word_61 rfl (lv_at hl 1 rfl) ?_
          refine lv_iload_n hx hb dX11_word_62 rfl (lv_at hl 2 rfl) ?_
          refine lv_iload_n hx hb dX11_word_63 rfl (lv_at hl 3 rfl) ?_
          obtain ⟨o10, ho10, h⟩ := gm_bind_e h
          refine gm_callS (As := [.ref q_tongue, .int x1, .int x2, .int x3]) (rest := []) (n := 4) C0 hH (mX11_addWord l dC dI cI q_tongue m_tongue x1 x2 x3   ho10) gX11_word_X11_addWord rfl (by decide +kernel) ⟨rfl, rfl, Nat.le_of_ble_eq_true rfl, Nat.le_of_ble_eq_true rfl⟩ gm_T_ok (fun _ => trivial) [2] rfl rfl rfl [0] rfl rfl hl.1 rfl (Nat.le_of_ble_eq_true rfl) dX11_word_64 ⟨Nat.zero_le _, Nat.zero_le _⟩ (fun H locs hH => ?_)
          have hH : gm_H (dC, dI) A s (wX11_word cI q q_refused q_tongue q_fresh q_kept q_isKept q_text q_said q_talk 0 m_size m_at m_start m_token m_value m_faultAt m_allowed m_firstPair m_secondPair m_above m_below m_refused o10) H locs := hH
          refine lv_aload_n hx hb dX11_word_67 rfl (lv_at hl 0 rfl) ?_
          refine gm_get (ci := 11) C0 hH inX11_word_X11 0 2 4 rfl rfl (by decide) rfl rfl dX11_word_68 ?_
          refine lv_iconst (v := 4) hx hb dX11_word_71 (by decide) ?_
          refine lv_iconst (v := 0) hx hb dX11_word_72 (by decide) ?_
          obtain ⟨hi11, h⟩ := gm_chk_e h
          refine gm_iast C0 hH hi11 2 0 rfl rfl dX11_word_73 (fun H locs hH => ?_)
          have hH : gm_H (dC, dI) A s (wX11_word cI q q_refused q_tongue q_fresh q_kept q_isKept q_text q_said q_talk 0 m_size m_at m_start m_token m_value m_faultAt m_allowed m_firstPair m_secondPair m_above m_below m_refused (upd o10 (Int32.toNatClampNeg 4) 0)) H locs := hH
          refine lv_aload_n hx hb dX11_word_74 rfl (lv_at hl 0 rfl) ?_
          refine gm_get (ci := 11) C0 hH inX11_word_X11 0 2 4 rfl rfl (by decide) rfl rfl dX11_word_75 ?_
          refine lv_iconst (v := 0) hx hb dX11_word_78 (by decide) ?_
          obtain ⟨hi12, h⟩ := gm_chk_e h
          refine gm_iald C0 hH hi12 2 0 rfl rfl dX11_word_79 ?_
          refine lv_iconst (v := 1) hx hb dX11_word_80 (by decide) ?_
          refine lv_isub hx hb dX11_word_81 ?_
          obtain rfl := Option.some.inj h
          exact gm_iret C0 hH dX11_word_82
        · replace h := gm_pos hc9 h
          refine lv_aload_n hx hb dX11_word_52 rfl (lv_at hl 0 rfl) ?_
          obtain ⟨o13, ho13, h⟩ := gm_bind_e h
          refine gm_callV (As := []) (rest := []) (n := 0) (ci := 11) (q0 := 0) C0 hH (mX11_full l dC dI cI q q_refused q_tongue q_fresh q_kept q_isKept q_text q_said q_talk 0 m_size m_at m_start m_token m_value m_faultAt m_allowed m_firstPair m_secondPair m_above m_below m_refused    ho13) gX11_word_X11_full rfl (by decide +kernel) ⟨rfl, rfl, Nat.le_of_ble_eq_true rfl, Nat.le_of_ble_eq_true rfl⟩ gm_T_ok (fun _ => trivial) [0, 1] rfl rfl rfl [0] rfl rfl rfl rfl hl.1 rfl (Nat.le_of_ble_eq_true rfl) dX11_word_53 ⟨Nat.zero_le _, Nat.zero_le _⟩ (fun H locs hH => ?_)
          have hH : gm_H (dC, dI) A s (wX11_word cI q q_refused q_tongue q_fresh q_kept q_isKept q_text q_said q_talk 0 m_size m_at m_start m_token m_value m_faultAt m_allowed m_firstPair m_secondPair m_above m_below o13.2 m_tongue) H locs := hH
          obtain rfl := Option.some.inj h
          exact gm_iret C0 hH dX11_word_56
      · replace h := gm_pos hc7 h
        exact tX11_word_b36 C0  h hH (lv_sub hl [0] rfl)

/-! X11_alike -/
abbrev wX11_alike (cI : ClassId) (q q_refused q_tongue q_fresh q_kept q_isKept q_text q_said q_talk : Nat) (m_thrown : Int32) (m_size : Int32) (m_at : Int32) (m_start : Int32) (m_token : Int32) (m_value : Int64) (m_faultAt : Int32) (m_allowed : Int32) (m_firstPair : Int32) (m_secondPair : Int32) (m_above : Int64) (m_below : Int64) (m_refused : Nat → Int32) (m_tongue : Nat → Int32) : va_W := [(q, .inr (11, [.int m_thrown, .ref q_refused, .ref q_tongue, .ref q_fresh, .ref q_kept, .ref q_isKept, .ref q_text, .int m_size, .int m_at, .int m_start, .int m_token, .long m_value, .int m_faultAt, .ref q_said, .ref q_talk, .int m_allowed, .int m_firstPair, .int m_secondPair, .long m_above, .long m_below])), (q_refused, .inl (cI, 3, .inl m_refused)), (q_tongue, .inl (cI, 73, .inl m_tongue))]
abbrev rX11_alike : Room := { frames := 2, cells := 0, slots := 0, locals := 45 }
def fX11_alike_b34 (N : Nat)  (m_thrown : Int32) (m_refused : Nat → Int32) (m_tongue : Nat → Int32) : Option (Int32 × Int32 × (Nat → Int32) × (Nat → Int32)) := gm_bind (fX11_bad N m_refused) (fun o3 => some (o3.1, m_thrown, o3.2, m_tongue))
def fX11_alike (N : Nat) (m_thrown : Int32) (m_refused : Nat → Int32) (m_tongue : Nat → Int32) (x1 : Int32) (x2 : Int32) (x3 : Int32) : Option (Int32 × Int32 × (Nat → Int32) × (Nat → Int32)) := gm_bind (fX11_isEnding N x1) (fun o1 => (if o1 = 0 then (fX11_alike_b34 N  0 m_refused m_tongue) else gm_bind (fX11_isEnding N x2) (fun o4 => (if o4 = 0 then (fX11_alike_b34 N  0 m_refused m_tongue) else (if x1 = x2 then (fX11_alike_b34 N  0 m_refused m_tongue) else gm_bind (fX11_in N ((Int32.toInt64 x3)) 0 1) (fun o7 => (if o7 = 0 then (fX11_alike_b34 N  0 m_refused m_tongue) else gm_chk ((45 + x1)) 73 (gm_let ((((m_tongue (Int32.toNatClampNeg ((45 + x1)))) >>> (x2 &&& 31)) &&& 1) : Int32) (fun (v10 : Int32) => gm_bind (fX11_setAlike N m_tongue x1 x2 x3) (fun o11 => some (v10, 0, m_refused, o11)))))))))))
set_option maxRecDepth 20000 in
theorem inX11_alike_X11 : ∀ w ∈ u_ws RX11 TX11 20, w ∈ wsX11_alike := fun w h => by
  obtain ⟨k, hk, rfl⟩ := List.mem_map.mp h
  have hk2 := List.mem_range.mp hk
  exact List.mem_of_getElem? (i := 23 + k) (by rcases (show k = 0 ∨ k = 1 ∨ k = 2 ∨ k = 3 ∨ k = 4 ∨ k = 5 ∨ k = 6 ∨ k = 7 ∨ k = 8 ∨ k = 9 ∨ k = 10 ∨ k = 11 ∨ k = 12 ∨ k = 13 ∨ k = 14 ∨ k = 15 ∨ k = 16 ∨ k = 17 ∨ k = 18 ∨ k = 19 by omega) with rfl | rfl | rfl | rfl | rfl | rfl | rfl | rfl | rfl | rfl | rfl | rfl | rfl | rfl | rfl | rfl | rfl | rfl | rfl | rfl <;> rfl)
set_option maxRecDepth 100000 in
set_option maxHeartbeats 4000000 in
theorem tX11_alike_b34 {p : Program} {l : Launch} {e : Env} {s : State} {m : MethodId} {args : Array Value} {below : List Frame} {meth : Method} {c : Code} {A : Nat → Prop} {dC : Nat → ClassId} {dI : Nat → Nat → Nat} {cI : ClassId} {q q_refused q_tongue q_fresh q_kept q_isKept q_text q_said q_talk : Nat} {m_thrown : Int32} {m_size : Int32} {m_at : Int32} {m_start : Int32} {m_token : Int32} {m_value : Int64} {m_faultAt : Int32} {m_allowed : Int32} {m_firstPair : Int32} {m_secondPair : Int32} {m_above : Int64} {m_below : Int64} {m_refused : Nat → Int32} {m_tongue : Nat → Int32} (C0 : gm_C p s m args meth c (dC, dI) [(cI, .int)] A gm_T RX11 cX11_alike 5 (some .int) wsX11_alike) {N : Nat} {out : Int32 × Int32 × (Nat → Int32) × (Nat → Int32)}    {H : Heap} {locs : List Loc} {ls : Array Slot} (h : fX11_alike_b34 N  m_thrown m_refused m_tongue = some out) (hH : gm_H (dC, dI) A s (wX11_alike cI q q_refused q_tongue q_fresh q_kept q_isKept q_text q_said q_talk m_thrown m_size m_at m_start m_token m_value m_faultAt m_allowed m_firstPair m_secondPair m_above m_below m_refused m_tongue) H locs) (hl : lv_has ls 5 [(0, .ref q)]) : W p l e rX11_alike s m args below meth c H locs 0 0 (MQ below (gm_Q (dC, dI) [(cI, .int)] A (some (.int out.1)) (wX11_alike cI q q_refused q_tongue q_fresh q_kept q_isKept q_text q_said q_talk out.2.1 m_size m_at m_start m_token m_value m_faultAt m_allowed m_firstPair m_secondPair m_above m_below out.2.2.1 out.2.2.2)) args s 0 0 A) (F0 m 34 ls []) := by
  obtain ⟨hx, hb, hml, hr, hown, hts, hA, hK, hX, hlocks⟩ := id C0
  unfold fX11_alike_b34 at h
  refine lv_aload_n hx hb dX11_alike_34 rfl (lv_at hl 0 rfl) ?_
  obtain ⟨o3, ho3, h⟩ := gm_bind_e h
  refine gm_callV (As := []) (rest := []) (n := 0) (ci := 11) (q0 := 0) C0 hH (mX11_bad l dC dI cI q q_refused q_tongue q_fresh q_kept q_isKept q_text q_said q_talk m_thrown m_size m_at m_start m_token m_value m_faultAt m_allowed m_firstPair m_secondPair m_above m_below m_refused    ho3) gX11_alike_X11_bad rfl (by decide +kernel) ⟨rfl, rfl, Nat.le_of_ble_eq_true rfl, Nat.le_of_ble_eq_true rfl⟩ gm_T_ok (fun _ => trivial) [0, 1] rfl rfl rfl [0] rfl rfl rfl rfl hl.1 rfl (Nat.le_of_ble_eq_true rfl) dX11_alike_35 ⟨Nat.zero_le _, Nat.zero_le _⟩ (fun H locs hH => ?_)
  have hH : gm_H (dC, dI) A s (wX11_alike cI q q_refused q_tongue q_fresh q_kept q_isKept q_text q_said q_talk m_thrown m_size m_at m_start m_token m_value m_faultAt m_allowed m_firstPair m_secondPair m_above m_below o3.2 m_tongue) H locs := hH
  obtain rfl := Option.some.inj h
  exact gm_iret C0 hH dX11_alike_38
set_option maxRecDepth 100000 in
set_option maxHeartbeats 4000000 in
theorem mX11_alike (l : Launch) (dC : Nat → ClassId) (dI : Nat → Nat → Nat) (cI : ClassId) (q q_refused q_tongue q_fresh q_kept q_isKept q_text q_said q_talk : Nat) (m_thrown : Int32) (m_size : Int32) (m_at : Int32) (m_start : Int32) (m_token : Int32) (m_value : Int64) (m_faultAt : Int32) (m_allowed : Int32) (m_firstPair : Int32) (m_secondPair : Int32) (m_above : Int64) (m_below : Int64) (m_refused : Nat → Int32) (m_tongue : Nat → Int32) (x1 : Int32) (x2 : Int32) (x3 : Int32)  {N : Nat} {out : Int32 × Int32 × (Nat → Int32) × (Nat → Int32)} (h : fX11_alike N m_thrown m_refused m_tongue x1 x2 x3 = some out) : gm_Met l yX11_alike wsX11_alike rX11_alike (dC, dI) [(cI, .int)] gm_T [.ref q, .int x1, .int x2, .int x3] (wX11_alike cI q q_refused q_tongue q_fresh q_kept q_isKept q_text q_said q_talk m_thrown m_size m_at m_start m_token m_value m_faultAt m_allowed m_firstPair m_secondPair m_above m_below m_refused m_tongue) (some (.int out.1)) (wX11_alike cI q q_refused q_tongue q_fresh q_kept q_isKept q_text q_said q_talk out.2.1 m_size m_at m_start m_token m_value m_faultAt m_allowed m_firstPair m_secondPair m_above m_below out.2.2.1 out.2.2.2) := by
  refine gm_ofW (cc := cX11_alike) (maxL := 5) (ret := (some .int)) (by decide +kernel) rfl (Nat.le_of_ble_eq_true rfl) ?_
  intro p e s m below meth c A C0 hH ls hl
  generalize ([.ref q, .int x1, .int x2, .int x3] : List Value).toArray = args at C0 ⊢
  have hl : lv_has ls 5 [(0, .ref q), (1, .int x1), (2, .int x2), (3, .int x3)] := hl
  generalize s.heap = H at hH ⊢
  generalize ([] : List Loc) = locs at hH ⊢
  obtain ⟨hx, hb, hml, hr, hown, hts, hA, hK, hX, hlocks⟩ := id C0
  unfold fX11_alike at h
  refine lv_aload_n hx hb dX11_alike_0 rfl (lv_at hl 0 rfl) ?_
  refine lv_iconst (v := 0) hx hb dX11_alike_1 (by decide) ?_
  refine gm_putf (ci := 11) C0 hH inX11_alike_X11 tyX11_ok nmX11 0 0 1 rfl rfl (by decide) rfl rfl rfl rfl rfl (Nat.le_of_ble_eq_true rfl) dX11_alike_2 (fun H locs hH => ?_)
  have hH : gm_H (dC, dI) A s (wX11_alike cI q q_refused q_tongue q_fresh q_kept q_isKept q_text q_said q_talk 0 m_size m_at m_start m_token m_value m_faultAt m_allowed m_firstPair m_secondPair m_above m_below m_refused m_tongue) H locs := hH
  refine lv_iload_n hx hb dX11_alike_5 rfl (lv_at hl 1 rfl) ?_
  obtain ⟨o1, ho1, h⟩ := gm_bind_e h
  refine gm_callS (As := [.int x1]) (rest := []) (n := 1) C0 hH (mX11_isEnding l dC dI    x1   ho1) gX11_alike_X11_isEnding rfl (by decide +kernel) ⟨rfl, rfl, Nat.le_of_ble_eq_true rfl, Nat.le_of_ble_eq_true rfl⟩ gm_T_ok (fun _ => trivial) [] rfl rfl rfl [] rfl rfl hl.1 rfl (Nat.le_of_ble_eq_true rfl) dX11_alike_6 ⟨Nat.zero_le _, Nat.zero_le _⟩ (fun H locs hH => ?_)
  have hH : gm_H (dC, dI) A s (wX11_alike cI q q_refused q_tongue q_fresh q_kept q_isKept q_text q_said q_talk 0 m_size m_at m_start m_token m_value m_faultAt m_allowed m_firstPair m_secondPair m_above m_below m_refused m_tongue) H locs := hH
  refine lv_if_eq (tgt := 34) hx hb dX11_alike_9 (by decide) (fun hc2 => ?_) (fun hc2 => ?_)
  · replace h := gm_pos hc2 h
    exact tX11_alike_b34 C0  h hH (lv_sub hl [0] rfl)
  · replace h := gm_neg hc2 h
    refine lv_iload_n hx hb dX11_alike_12 rfl (lv_at hl 2 rfl) ?_
    obtain ⟨o4, ho4, h⟩ := gm_bind_e h
    refine gm_callS (As := [.int x2]) (rest := []) (n := 1) C0 hH (mX11_isEnding l dC dI    x2   ho4) gX11_alike_X11_isEnding rfl (by decide +kernel) ⟨rfl, rfl, Nat.le_of_ble_eq_true rfl, Nat.le_of_ble_eq_true rfl⟩ gm_T_ok (fun _ => trivial) [] rfl rfl rfl [] rfl rfl hl.1 rfl (Nat.le_of_ble_eq_true rfl) dX11_alike_13 ⟨Nat.zero_le _, Nat.zero_le _⟩ (fun H locs hH => ?_)
    have hH : gm_H (dC, dI) A s (wX11_alike cI q q_refused q_tongue q_fresh q_kept q_isKept q_text q_said q_talk 0 m_size m_at m_start m_token m_value m_faultAt m_allowed m_firstPair m_secondPair m_above m_below m_refused m_tongue) H locs := hH
    refine lv_if_eq (tgt := 34) hx hb dX11_alike_16 (by decide) (fun hc5 => ?_) (fun hc5 => ?_)
    · replace h := gm_pos hc5 h
      exact tX11_alike_b34 C0  h hH (lv_sub hl [0] rfl)
    · replace h := gm_neg hc5 h
      refine lv_iload_n hx hb dX11_alike_19 rfl (lv_at hl 1 rfl) ?_
      refine lv_iload_n hx hb dX11_alike_20 rfl (lv_at hl 2 rfl) ?_
      refine lv_icmp_eq (tgt := 34) hx hb dX11_alike_21 (by decide) (fun hc6 => ?_) (fun hc6 => ?_)
      · replace h := gm_pos hc6 h
        exact tX11_alike_b34 C0  h hH (lv_sub hl [0] rfl)
      · replace h := gm_neg hc6 h
        refine lv_iload_n hx hb dX11_alike_24 rfl (lv_at hl 3 rfl) ?_
        refine lv_i2l hx hb dX11_alike_25 rfl ?_
        refine lv_lconst (v := 0) hx hb dX11_alike_26 (by decide) ?_
        refine lv_lconst (v := 1) hx hb dX11_alike_27 (by decide) ?_
        obtain ⟨o7, ho7, h⟩ := gm_bind_e h
        refine gm_callS (As := [.long (Int32.toInt64 x3), .long 0, .long 1]) (rest := []) (n := 3) C0 hH (mX11_in l dC dI    ((Int32.toInt64 x3)) 0 1   ho7) gX11_alike_X11_in rfl (by decide +kernel) ⟨rfl, rfl, Nat.le_of_ble_eq_true rfl, Nat.le_of_ble_eq_true rfl⟩ gm_T_ok (fun _ => trivial) [] rfl rfl rfl [] rfl rfl hl.1 rfl (Nat.le_of_ble_eq_true rfl) dX11_alike_28 ⟨Nat.zero_le _, Nat.zero_le _⟩ (fun H locs hH => ?_)
        have hH : gm_H (dC, dI) A s (wX11_alike cI q q_refused q_tongue q_fresh q_kept q_isKept q_text q_said q_talk 0 m_size m_at m_start m_token m_value m_faultAt m_allowed m_firstPair m_secondPair m_above m_below m_refused m_tongue) H locs := hH
        refine lv_if_ne (tgt := 39) hx hb dX11_alike_31 (by decide) (fun hc8 => ?_) (fun hc8 => ?_)
        · replace h := gm_neg hc8 h
          refine lv_aload_n hx hb dX11_alike_39 rfl (lv_at hl 0 rfl) ?_
          refine gm_get (ci := 11) C0 hH inX11_alike_X11 0 2 2 rfl rfl (by decide) rfl rfl dX11_alike_40 ?_
          refine lv_bipush (v := 45) hx hb dX11_alike_43 (by decide) ?_
          refine lv_iload_n hx hb dX11_alike_45 rfl (lv_at hl 1 rfl) ?_
          refine lv_iadd hx hb dX11_alike_46 ?_
          obtain ⟨hi9, h⟩ := gm_chk_e h
          refine gm_iald C0 hH hi9 2 0 rfl rfl dX11_alike_47 ?_
          refine lv_iload_n hx hb dX11_alike_48 rfl (lv_at hl 2 rfl) ?_
          refine lv_ishr hx hb dX11_alike_49 ?_
          refine lv_iconst (v := 1) hx hb dX11_alike_50 (by decide) ?_
          refine lv_iand hx hb dX11_alike_51 ?_
          refine lv_topi (fun v10 ev10 => ?_)
          replace h := gm_let_e ev10 h
          refine lv_istore (lv' := [(4, .int v10), (0, .ref q), (1, .int x1), (2, .int x2), (3, .int x3)]) hx hb dX11_alike_52 hl (by decide) rfl (fun ls hl => ?_)
          refine lv_aload_n hx hb dX11_alike_54 rfl (lv_at hl 1 rfl) ?_
          refine gm_get (ci := 11) C0 hH inX11_alike_X11 0 2 2 rfl rfl (by decide) rfl rfl dX11_alike_55 ?_
          refine lv_iload_n hx hb dX11_alike_58 rfl (lv_at hl 2 rfl) ?_
          refine lv_iload_n hx hb dX11_alike_59 rfl (lv_at hl 3 rfl) ?_
          refine lv_iload_n hx hb dX11_alike_60 rfl (lv_at hl 4 rfl) ?_
          obtain ⟨o11, ho11, h⟩ := gm_bind_e h
          refine gm_callS (As := [.ref q_tongue, .int x1, .int x2, .int x3]) (rest := []) (n := 4) C0 hH (mX11_setAlike l dC dI cI q_tongue m_tongue x1 x2 x3   ho11) gX11_alike_X11_setAlike rfl (by decide +kernel) ⟨rfl, rfl, Nat.le_of_ble_eq_true rfl, Nat.le_of_ble_eq_true rfl⟩ gm_T_ok (fun _ => trivial) [2] rfl rfl rfl [0] rfl rfl hl.1 rfl (Nat.le_of_ble_eq_true rfl) dX11_alike_61 ⟨Nat.zero_le _, Nat.zero_le _⟩ (fun H locs hH => ?_)
          have hH : gm_H (dC, dI) A s (wX11_alike cI q q_refused q_tongue q_fresh q_kept q_isKept q_text q_said q_talk 0 m_size m_at m_start m_token m_value m_faultAt m_allowed m_firstPair m_secondPair m_above m_below m_refused o11) H locs := hH
          refine lv_iload hx hb dX11_alike_64 (lv_at hl 0 rfl) ?_
          obtain rfl := Option.some.inj h
          exact gm_iret C0 hH dX11_alike_66
        · replace h := gm_pos hc8 h
          exact tX11_alike_b34 C0  h hH (lv_sub hl [0] rfl)

/-! X11_person -/
abbrev wX11_person (cI : ClassId) (q q_refused q_tongue q_fresh q_kept q_isKept q_text q_said q_talk : Nat) (m_thrown : Int32) (m_size : Int32) (m_at : Int32) (m_start : Int32) (m_token : Int32) (m_value : Int64) (m_faultAt : Int32) (m_allowed : Int32) (m_firstPair : Int32) (m_secondPair : Int32) (m_above : Int64) (m_below : Int64) (m_refused : Nat → Int32) (m_tongue : Nat → Int32) : va_W := [(q, .inr (11, [.int m_thrown, .ref q_refused, .ref q_tongue, .ref q_fresh, .ref q_kept, .ref q_isKept, .ref q_text, .int m_size, .int m_at, .int m_start, .int m_token, .long m_value, .int m_faultAt, .ref q_said, .ref q_talk, .int m_allowed, .int m_firstPair, .int m_secondPair, .long m_above, .long m_below])), (q_refused, .inl (cI, 3, .inl m_refused)), (q_tongue, .inl (cI, 73, .inl m_tongue))]
abbrev rX11_person : Room := { frames := 2, cells := 0, slots := 0, locals := 42 }
def fX11_person_b29 (N : Nat)  (m_thrown : Int32) (m_refused : Nat → Int32) (m_tongue : Nat → Int32) : Option (Int32 × Int32 × (Nat → Int32) × (Nat → Int32)) := gm_bind (fX11_bad N m_refused) (fun o3 => some (o3.1, m_thrown, o3.2, m_tongue))
def fX11_person (N : Nat) (m_thrown : Int32) (m_refused : Nat → Int32) (m_tongue : Nat → Int32) (x1 : Int32) (x2 : Int32) : Option (Int32 × Int32 × (Nat → Int32) × (Nat → Int32)) := gm_bind (fX11_in N ((Int32.toInt64 x1)) 0 5) (fun o1 => (if o1 = 0 then (fX11_person_b29 N  0 m_refused m_tongue) else gm_bind (fX11_in N ((Int32.toInt64 x2)) 0 7) (fun o4 => (if o4 = 0 then (fX11_person_b29 N  0 m_refused m_tongue) else gm_chk 1 73 ((if (m_tongue (Int32.toNatClampNeg 1)) = 5 then gm_bind (fX11_full N m_refused) (fun o10 => some (o10.1, 0, o10.2, m_tongue)) else gm_bind (fX11_addPerson N m_tongue x1 x2) (fun o8 => gm_chk 1 73 (some (((o8 (Int32.toNatClampNeg 1)) - 1), 0, m_refused, o8)))))))))
set_option maxRecDepth 20000 in
theorem inX11_person_X11 : ∀ w ∈ u_ws RX11 TX11 20, w ∈ wsX11_person := fun w h => by
  obtain ⟨k, hk, rfl⟩ := List.mem_map.mp h
  have hk2 := List.mem_range.mp hk
  exact List.mem_of_getElem? (i := 25 + k) (by rcases (show k = 0 ∨ k = 1 ∨ k = 2 ∨ k = 3 ∨ k = 4 ∨ k = 5 ∨ k = 6 ∨ k = 7 ∨ k = 8 ∨ k = 9 ∨ k = 10 ∨ k = 11 ∨ k = 12 ∨ k = 13 ∨ k = 14 ∨ k = 15 ∨ k = 16 ∨ k = 17 ∨ k = 18 ∨ k = 19 by omega) with rfl | rfl | rfl | rfl | rfl | rfl | rfl | rfl | rfl | rfl | rfl | rfl | rfl | rfl | rfl | rfl | rfl | rfl | rfl | rfl <;> rfl)
set_option maxRecDepth 100000 in
set_option maxHeartbeats 4000000 in
theorem tX11_person_b29 {p : Program} {l : Launch} {e : Env} {s : State} {m : MethodId} {args : Array Value} {below : List Frame} {meth : Method} {c : Code} {A : Nat → Prop} {dC : Nat → ClassId} {dI : Nat → Nat → Nat} {cI : ClassId} {q q_refused q_tongue q_fresh q_kept q_isKept q_text q_said q_talk : Nat} {m_thrown : Int32} {m_size : Int32} {m_at : Int32} {m_start : Int32} {m_token : Int32} {m_value : Int64} {m_faultAt : Int32} {m_allowed : Int32} {m_firstPair : Int32} {m_secondPair : Int32} {m_above : Int64} {m_below : Int64} {m_refused : Nat → Int32} {m_tongue : Nat → Int32} (C0 : gm_C p s m args meth c (dC, dI) [(cI, .int)] A gm_T RX11 cX11_person 3 (some .int) wsX11_person) {N : Nat} {out : Int32 × Int32 × (Nat → Int32) × (Nat → Int32)}    {H : Heap} {locs : List Loc} {ls : Array Slot} (h : fX11_person_b29 N  m_thrown m_refused m_tongue = some out) (hH : gm_H (dC, dI) A s (wX11_person cI q q_refused q_tongue q_fresh q_kept q_isKept q_text q_said q_talk m_thrown m_size m_at m_start m_token m_value m_faultAt m_allowed m_firstPair m_secondPair m_above m_below m_refused m_tongue) H locs) (hl : lv_has ls 3 [(0, .ref q)]) : W p l e rX11_person s m args below meth c H locs 0 0 (MQ below (gm_Q (dC, dI) [(cI, .int)] A (some (.int out.1)) (wX11_person cI q q_refused q_tongue q_fresh q_kept q_isKept q_text q_said q_talk out.2.1 m_size m_at m_start m_token m_value m_faultAt m_allowed m_firstPair m_secondPair m_above m_below out.2.2.1 out.2.2.2)) args s 0 0 A) (F0 m 29 ls []) := by
  obtain ⟨hx, hb, hml, hr, hown, hts, hA, hK, hX, hlocks⟩ := id C0
  unfold fX11_person_b29 at h
  refine lv_aload_n hx hb dX11_person_29 rfl (lv_at hl 0 rfl) ?_
  obtain ⟨o3, ho3, h⟩ := gm_bind_e h
  refine gm_callV (As := []) (rest := []) (n := 0) (ci := 11) (q0 := 0) C0 hH (mX11_bad l dC dI cI q q_refused q_tongue q_fresh q_kept q_isKept q_text q_said q_talk m_thrown m_size m_at m_start m_token m_value m_faultAt m_allowed m_firstPair m_secondPair m_above m_below m_refused    ho3) gX11_person_X11_bad rfl (by decide +kernel) ⟨rfl, rfl, Nat.le_of_ble_eq_true rfl, Nat.le_of_ble_eq_true rfl⟩ gm_T_ok (fun _ => trivial) [0, 1] rfl rfl rfl [0] rfl rfl rfl rfl hl.1 rfl (Nat.le_of_ble_eq_true rfl) dX11_person_30 ⟨Nat.zero_le _, Nat.zero_le _⟩ (fun H locs hH => ?_)
  have hH : gm_H (dC, dI) A s (wX11_person cI q q_refused q_tongue q_fresh q_kept q_isKept q_text q_said q_talk m_thrown m_size m_at m_start m_token m_value m_faultAt m_allowed m_firstPair m_secondPair m_above m_below o3.2 m_tongue) H locs := hH
  obtain rfl := Option.some.inj h
  exact gm_iret C0 hH dX11_person_33
set_option maxRecDepth 100000 in
set_option maxHeartbeats 4000000 in
theorem mX11_person (l : Launch) (dC : Nat → ClassId) (dI : Nat → Nat → Nat) (cI : ClassId) (q q_refused q_tongue q_fresh q_kept q_isKept q_text q_said q_talk : Nat) (m_thrown : Int32) (m_size : Int32) (m_at : Int32) (m_start : Int32) (m_token : Int32) (m_value : Int64) (m_faultAt : Int32) (m_allowed : Int32) (m_firstPair : Int32) (m_secondPair : Int32) (m_above : Int64) (m_below : Int64) (m_refused : Nat → Int32) (m_tongue : Nat → Int32) (x1 : Int32) (x2 : Int32)  {N : Nat} {out : Int32 × Int32 × (Nat → Int32) × (Nat → Int32)} (h : fX11_person N m_thrown m_refused m_tongue x1 x2 = some out) : gm_Met l yX11_person wsX11_person rX11_person (dC, dI) [(cI, .int)] gm_T [.ref q, .int x1, .int x2] (wX11_person cI q q_refused q_tongue q_fresh q_kept q_isKept q_text q_said q_talk m_thrown m_size m_at m_start m_token m_value m_faultAt m_allowed m_firstPair m_secondPair m_above m_below m_refused m_tongue) (some (.int out.1)) (wX11_person cI q q_refused q_tongue q_fresh q_kept q_isKept q_text q_said q_talk out.2.1 m_size m_at m_start m_token m_value m_faultAt m_allowed m_firstPair m_secondPair m_above m_below out.2.2.1 out.2.2.2) := by
  refine gm_ofW (cc := cX11_person) (maxL := 3) (ret := (some .int)) (by decide +kernel) rfl (Nat.le_of_ble_eq_true rfl) ?_
  intro p e s m below meth c A C0 hH ls hl
  generalize ([.ref q, .int x1, .int x2] : List Value).toArray = args at C0 ⊢
  have hl : lv_has ls 3 [(0, .ref q), (1, .int x1), (2, .int x2)] := hl
  generalize s.heap = H at hH ⊢
  generalize ([] : List Loc) = locs at hH ⊢
  obtain ⟨hx, hb, hml, hr, hown, hts, hA, hK, hX, hlocks⟩ := id C0
  unfold fX11_person at h
  refine lv_aload_n hx hb dX11_person_0 rfl (lv_at hl 0 rfl) ?_
  refine lv_iconst (v := 0) hx hb dX11_person_1 (by decide) ?_
  refine gm_putf (ci := 11) C0 hH inX11_person_X11 tyX11_ok nmX11 0 0 1 rfl rfl (by decide) rfl rfl rfl rfl rfl (Nat.le_of_ble_eq_true rfl) dX11_person_2 (fun H locs hH => ?_)
  have hH : gm_H (dC, dI) A s (wX11_person cI q q_refused q_tongue q_fresh q_kept q_isKept q_text q_said q_talk 0 m_size m_at m_start m_token m_value m_faultAt m_allowed m_firstPair m_secondPair m_above m_below m_refused m_tongue) H locs := hH
  refine lv_iload_n hx hb dX11_person_5 rfl (lv_at hl 1 rfl) ?_
  refine lv_i2l hx hb dX11_person_6 rfl ?_
  refine lv_lconst (v := 0) hx hb dX11_person_7 (by decide) ?_
  refine lv_ldc2 (own := RX11) (v := 5) hx hb hown (gm_at C0 2 rfl) dX11_person_8 ?_
  obtain ⟨o1, ho1, h⟩ := gm_bind_e h
  refine gm_callS (As := [.long (Int32.toInt64 x1), .long 0, .long 5]) (rest := []) (n := 3) C0 hH (mX11_in l dC dI    ((Int32.toInt64 x1)) 0 5   ho1) gX11_person_X11_in rfl (by decide +kernel) ⟨rfl, rfl, Nat.le_of_ble_eq_true rfl, Nat.le_of_ble_eq_true rfl⟩ gm_T_ok (fun _ => trivial) [] rfl rfl rfl [] rfl rfl hl.1 rfl (Nat.le_of_ble_eq_true rfl) dX11_person_11 ⟨Nat.zero_le _, Nat.zero_le _⟩ (fun H locs hH => ?_)
  have hH : gm_H (dC, dI) A s (wX11_person cI q q_refused q_tongue q_fresh q_kept q_isKept q_text q_said q_talk 0 m_size m_at m_start m_token m_value m_faultAt m_allowed m_firstPair m_secondPair m_above m_below m_refused m_tongue) H locs := hH
  refine lv_if_eq (tgt := 29) hx hb dX11_person_14 (by decide) (fun hc2 => ?_) (fun hc2 => ?_)
  · replace h := gm_pos hc2 h
    exact tX11_person_b29 C0  h hH (lv_sub hl [0] rfl)
  · replace h := gm_neg hc2 h
    refine lv_iload_n hx hb dX11_person_17 rfl (lv_at hl 2 rfl) ?_
    refine lv_i2l hx hb dX11_person_18 rfl ?_
    refine lv_lconst (v := 0) hx hb dX11_person_19 (by decide) ?_
    refine lv_ldc2 (own := RX11) (v := 7) hx hb hown (gm_at C0 3 rfl) dX11_person_20 ?_
    obtain ⟨o4, ho4, h⟩ := gm_bind_e h
    refine gm_callS (As := [.long (Int32.toInt64 x2), .long 0, .long 7]) (rest := []) (n := 3) C0 hH (mX11_in l dC dI    ((Int32.toInt64 x2)) 0 7   ho4) gX11_person_X11_in rfl (by decide +kernel) ⟨rfl, rfl, Nat.le_of_ble_eq_true rfl, Nat.le_of_ble_eq_true rfl⟩ gm_T_ok (fun _ => trivial) [] rfl rfl rfl [] rfl rfl hl.1 rfl (Nat.le_of_ble_eq_true rfl) dX11_person_23 ⟨Nat.zero_le _, Nat.zero_le _⟩ (fun H locs hH => ?_)
    have hH : gm_H (dC, dI) A s (wX11_person cI q q_refused q_tongue q_fresh q_kept q_isKept q_text q_said q_talk 0 m_size m_at m_start m_token m_value m_faultAt m_allowed m_firstPair m_secondPair m_above m_below m_refused m_tongue) H locs := hH
    refine lv_if_ne (tgt := 34) hx hb dX11_person_26 (by decide) (fun hc5 => ?_) (fun hc5 => ?_)
    · replace h := gm_neg hc5 h
      refine lv_aload_n hx hb dX11_person_34 rfl (lv_at hl 0 rfl) ?_
      refine gm_get (ci := 11) C0 hH inX11_person_X11 0 2 4 rfl rfl (by decide) rfl rfl dX11_person_35 ?_
      refine lv_iconst (v := 1) hx hb dX11_person_38 (by decide) ?_
      obtain ⟨hi6, h⟩ := gm_chk_e h
      refine gm_iald C0 hH hi6 2 0 rfl rfl dX11_person_39 ?_
      refine lv_iconst (v := 5) hx hb dX11_person_40 (by decide) ?_
      refine lv_icmp_ne (tgt := 49) hx hb dX11_person_41 (by decide) (fun hc7 => ?_) (fun hc7 => ?_)
      · replace h := gm_neg hc7 h
        refine lv_aload_n hx hb dX11_person_49 rfl (lv_at hl 0 rfl) ?_
        refine gm_get (ci := 11) C0 hH inX11_person_X11 0 2 4 rfl rfl (by decide) rfl rfl dX11_person_50 ?_
        refine lv_iload_n hx hb dX11_person_53 rfl (lv_at hl 1 rfl) ?_
        refine lv_iload_n hx hb dX11_person_54 rfl (lv_at hl 2 rfl) ?_
        obtain ⟨o8, ho8, h⟩ := gm_bind_e h
        refine gm_callS (As := [.ref q_tongue, .int x1, .int x2]) (rest := []) (n := 3) C0 hH (mX11_addPerson l dC dI cI q_tongue m_tongue x1 x2   ho8) gX11_person_X11_addPerson rfl (by decide +kernel) ⟨rfl, rfl, Nat.le_of_ble_eq_true rfl, Nat.le_of_ble_eq_true rfl⟩ gm_T_ok (fun _ => trivial) [2] rfl rfl rfl [0] rfl rfl hl.1 rfl (Nat.le_of_ble_eq_true rfl) dX11_person_55 ⟨Nat.zero_le _, Nat.zero_le _⟩ (fun H locs hH => ?_)
        have hH : gm_H (dC, dI) A s (wX11_person cI q q_refused q_tongue q_fresh q_kept q_isKept q_text q_said q_talk 0 m_size m_at m_start m_token m_value m_faultAt m_allowed m_firstPair m_secondPair m_above m_below m_refused o8) H locs := hH
        refine lv_aload_n hx hb dX11_person_58 rfl (lv_at hl 0 rfl) ?_
        refine gm_get (ci := 11) C0 hH inX11_person_X11 0 2 4 rfl rfl (by decide) rfl rfl dX11_person_59 ?_
        refine lv_iconst (v := 1) hx hb dX11_person_62 (by decide) ?_
        obtain ⟨hi9, h⟩ := gm_chk_e h
        refine gm_iald C0 hH hi9 2 0 rfl rfl dX11_person_63 ?_
        refine lv_iconst (v := 1) hx hb dX11_person_64 (by decide) ?_
        refine lv_isub hx hb dX11_person_65 ?_
        obtain rfl := Option.some.inj h
        exact gm_iret C0 hH dX11_person_66
      · replace h := gm_pos hc7 h
        refine lv_aload_n hx hb dX11_person_44 rfl (lv_at hl 0 rfl) ?_
        obtain ⟨o10, ho10, h⟩ := gm_bind_e h
        refine gm_callV (As := []) (rest := []) (n := 0) (ci := 11) (q0 := 0) C0 hH (mX11_full l dC dI cI q q_refused q_tongue q_fresh q_kept q_isKept q_text q_said q_talk 0 m_size m_at m_start m_token m_value m_faultAt m_allowed m_firstPair m_secondPair m_above m_below m_refused    ho10) gX11_person_X11_full rfl (by decide +kernel) ⟨rfl, rfl, Nat.le_of_ble_eq_true rfl, Nat.le_of_ble_eq_true rfl⟩ gm_T_ok (fun _ => trivial) [0, 1] rfl rfl rfl [0] rfl rfl rfl rfl hl.1 rfl (Nat.le_of_ble_eq_true rfl) dX11_person_45 ⟨Nat.zero_le _, Nat.zero_le _⟩ (fun H locs hH => ?_)
        have hH : gm_H (dC, dI) A s (wX11_person cI q q_refused q_tongue q_fresh q_kept q_isKept q_text q_said q_talk 0 m_size m_at m_start m_token m_value m_faultAt m_allowed m_firstPair m_secondPair m_above m_below o10.2 m_tongue) H locs := hH
        obtain rfl := Option.some.inj h
        exact gm_iret C0 hH dX11_person_48
    · replace h := gm_pos hc5 h
      exact tX11_person_b29 C0  h hH (lv_sub hl [0] rfl)

/-! X11_type -/
abbrev wX11_type (cI : ClassId) (q q_refused q_text q_tongue q_fresh q_kept q_isKept q_said q_talk : Nat) (m_thrown : Int32) (m_size : Int32) (m_at : Int32) (m_start : Int32) (m_token : Int32) (m_value : Int64) (m_faultAt : Int32) (m_allowed : Int32) (m_firstPair : Int32) (m_secondPair : Int32) (m_above : Int64) (m_below : Int64) (m_refused : Nat → Int32) (m_text : Nat → Int32) : va_W := [(q, .inr (11, [.int m_thrown, .ref q_refused, .ref q_tongue, .ref q_fresh, .ref q_kept, .ref q_isKept, .ref q_text, .int m_size, .int m_at, .int m_start, .int m_token, .long m_value, .int m_faultAt, .ref q_said, .ref q_talk, .int m_allowed, .int m_firstPair, .int m_secondPair, .long m_above, .long m_below])), (q_refused, .inl (cI, 3, .inl m_refused)), (q_text, .inl (cI, 150, .inl m_text))]
abbrev rX11_type : Room := { frames := 2, cells := 0, slots := 0, locals := 42 }
def fX11_type (N : Nat) (m_thrown : Int32) (m_size : Int32) (m_refused : Nat → Int32) (m_text : Nat → Int32) (x1 : Int32) : Option (Int32 × Int32 × Int32 × (Nat → Int32) × (Nat → Int32)) := gm_bind (fX11_in N ((Int32.toInt64 x1)) 0 127) (fun o1 => (if o1 = 0 then gm_bind (fX11_bad N m_refused) (fun o7 => some (o7.1, 0, m_size, o7.2, m_text)) else (if m_size = 150 then gm_bind (fX11_full N m_refused) (fun o6 => some (o6.1, 0, m_size, o6.2, m_text)) else gm_chk m_size 150 (gm_let ((m_size + 1) : Int32) (fun (v5 : Int32) => some (v5, 0, v5, m_refused, upd m_text (Int32.toNatClampNeg m_size) x1))))))
set_option maxRecDepth 20000 in
theorem inX11_type_X11 : ∀ w ∈ u_ws RX11 TX11 20, w ∈ wsX11_type := fun w h => by
  obtain ⟨k, hk, rfl⟩ := List.mem_map.mp h
  have hk2 := List.mem_range.mp hk
  exact List.mem_of_getElem? (i := 22 + k) (by rcases (show k = 0 ∨ k = 1 ∨ k = 2 ∨ k = 3 ∨ k = 4 ∨ k = 5 ∨ k = 6 ∨ k = 7 ∨ k = 8 ∨ k = 9 ∨ k = 10 ∨ k = 11 ∨ k = 12 ∨ k = 13 ∨ k = 14 ∨ k = 15 ∨ k = 16 ∨ k = 17 ∨ k = 18 ∨ k = 19 by omega) with rfl | rfl | rfl | rfl | rfl | rfl | rfl | rfl | rfl | rfl | rfl | rfl | rfl | rfl | rfl | rfl | rfl | rfl | rfl | rfl <;> rfl)
set_option maxRecDepth 100000 in
set_option maxHeartbeats 4000000 in
theorem mX11_type (l : Launch) (dC : Nat → ClassId) (dI : Nat → Nat → Nat) (cI : ClassId) (q q_refused q_text q_tongue q_fresh q_kept q_isKept q_said q_talk : Nat) (m_thrown : Int32) (m_size : Int32) (m_at : Int32) (m_start : Int32) (m_token : Int32) (m_value : Int64) (m_faultAt : Int32) (m_allowed : Int32) (m_firstPair : Int32) (m_secondPair : Int32) (m_above : Int64) (m_below : Int64) (m_refused : Nat → Int32) (m_text : Nat → Int32) (x1 : Int32)  {N : Nat} {out : Int32 × Int32 × Int32 × (Nat → Int32) × (Nat → Int32)} (h : fX11_type N m_thrown m_size m_refused m_text x1 = some out) : gm_Met l yX11_type wsX11_type rX11_type (dC, dI) [(cI, .int)] gm_T [.ref q, .int x1] (wX11_type cI q q_refused q_text q_tongue q_fresh q_kept q_isKept q_said q_talk m_thrown m_size m_at m_start m_token m_value m_faultAt m_allowed m_firstPair m_secondPair m_above m_below m_refused m_text) (some (.int out.1)) (wX11_type cI q q_refused q_text q_tongue q_fresh q_kept q_isKept q_said q_talk out.2.1 out.2.2.1 m_at m_start m_token m_value m_faultAt m_allowed m_firstPair m_secondPair m_above m_below out.2.2.2.1 out.2.2.2.2) := by
  refine gm_ofW (cc := cX11_type) (maxL := 2) (ret := (some .int)) (by decide +kernel) rfl (Nat.le_of_ble_eq_true rfl) ?_
  intro p e s m below meth c A C0 hH ls hl
  generalize ([.ref q, .int x1] : List Value).toArray = args at C0 ⊢
  have hl : lv_has ls 2 [(0, .ref q), (1, .int x1)] := hl
  generalize s.heap = H at hH ⊢
  generalize ([] : List Loc) = locs at hH ⊢
  obtain ⟨hx, hb, hml, hr, hown, hts, hA, hK, hX, hlocks⟩ := id C0
  unfold fX11_type at h
  refine lv_aload_n hx hb dX11_type_0 rfl (lv_at hl 0 rfl) ?_
  refine lv_iconst (v := 0) hx hb dX11_type_1 (by decide) ?_
  refine gm_putf (ci := 11) C0 hH inX11_type_X11 tyX11_ok nmX11 0 0 1 rfl rfl (by decide) rfl rfl rfl rfl rfl (Nat.le_of_ble_eq_true rfl) dX11_type_2 (fun H locs hH => ?_)
  have hH : gm_H (dC, dI) A s (wX11_type cI q q_refused q_text q_tongue q_fresh q_kept q_isKept q_said q_talk 0 m_size m_at m_start m_token m_value m_faultAt m_allowed m_firstPair m_secondPair m_above m_below m_refused m_text) H locs := hH
  refine lv_iload_n hx hb dX11_type_5 rfl (lv_at hl 1 rfl) ?_
  refine lv_i2l hx hb dX11_type_6 rfl ?_
  refine lv_lconst (v := 0) hx hb dX11_type_7 (by decide) ?_
  refine lv_ldc2 (own := RX11) (v := 127) hx hb hown (gm_at C0 2 rfl) dX11_type_8 ?_
  obtain ⟨o1, ho1, h⟩ := gm_bind_e h
  refine gm_callS (As := [.long (Int32.toInt64 x1), .long 0, .long 127]) (rest := []) (n := 3) C0 hH (mX11_in l dC dI    ((Int32.toInt64 x1)) 0 127   ho1) gX11_type_X11_in rfl (by decide +kernel) ⟨rfl, rfl, Nat.le_of_ble_eq_true rfl, Nat.le_of_ble_eq_true rfl⟩ gm_T_ok (fun _ => trivial) [] rfl rfl rfl [] rfl rfl hl.1 rfl (Nat.le_of_ble_eq_true rfl) dX11_type_11 ⟨Nat.zero_le _, Nat.zero_le _⟩ (fun H locs hH => ?_)
  have hH : gm_H (dC, dI) A s (wX11_type cI q q_refused q_text q_tongue q_fresh q_kept q_isKept q_said q_talk 0 m_size m_at m_start m_token m_value m_faultAt m_allowed m_firstPair m_secondPair m_above m_below m_refused m_text) H locs := hH
  refine lv_if_ne (tgt := 22) hx hb dX11_type_14 (by decide) (fun hc2 => ?_) (fun hc2 => ?_)
  · replace h := gm_neg hc2 h
    refine lv_aload_n hx hb dX11_type_22 rfl (lv_at hl 0 rfl) ?_
    refine gm_get (ci := 11) C0 hH inX11_type_X11 0 7 3 rfl rfl (by decide) rfl rfl dX11_type_23 ?_
    refine lv_sipush (v := 150) hx hb dX11_type_26 (by decide) ?_
    refine lv_icmp_ne (tgt := 37) hx hb dX11_type_29 (by decide) (fun hc3 => ?_) (fun hc3 => ?_)
    · replace h := gm_neg hc3 h
      refine lv_aload_n hx hb dX11_type_37 rfl (lv_at hl 0 rfl) ?_
      refine gm_get (ci := 11) C0 hH inX11_type_X11 0 6 4 rfl rfl (by decide) rfl rfl dX11_type_38 ?_
      refine lv_aload_n hx hb dX11_type_41 rfl (lv_at hl 0 rfl) ?_
      refine gm_get (ci := 11) C0 hH inX11_type_X11 0 7 3 rfl rfl (by decide) rfl rfl dX11_type_42 ?_
      refine lv_iload_n hx hb dX11_type_45 rfl (lv_at hl 1 rfl) ?_
      obtain ⟨hi4, h⟩ := gm_chk_e h
      refine gm_iast C0 hH hi4 2 0 rfl rfl dX11_type_46 (fun H locs hH => ?_)
      have hH : gm_H (dC, dI) A s (wX11_type cI q q_refused q_text q_tongue q_fresh q_kept q_isKept q_said q_talk 0 m_size m_at m_start m_token m_value m_faultAt m_allowed m_firstPair m_secondPair m_above m_below m_refused (upd m_text (Int32.toNatClampNeg m_size) x1)) H locs := hH
      refine lv_aload_n hx hb dX11_type_47 rfl (lv_at hl 0 rfl) ?_
      refine lv_dup hx hb dX11_type_48 rfl ?_
      refine gm_get (ci := 11) C0 hH inX11_type_X11 0 7 3 rfl rfl (by decide) rfl rfl dX11_type_49 ?_
      refine lv_iconst (v := 1) hx hb dX11_type_52 (by decide) ?_
      refine lv_iadd hx hb dX11_type_53 ?_
      refine lv_topi (fun v5 ev5 => ?_)
      replace h := gm_let_e ev5 h
      refine gm_putf (ci := 11) C0 hH inX11_type_X11 tyX11_ok nmX11 0 7 3 rfl rfl (by decide) rfl rfl rfl rfl rfl (Nat.le_of_ble_eq_true rfl) dX11_type_54 (fun H locs hH => ?_)
      have hH : gm_H (dC, dI) A s (wX11_type cI q q_refused q_text q_tongue q_fresh q_kept q_isKept q_said q_talk 0 v5 m_at m_start m_token m_value m_faultAt m_allowed m_firstPair m_secondPair m_above m_below m_refused (upd m_text (Int32.toNatClampNeg m_size) x1)) H locs := hH
      refine lv_aload_n hx hb dX11_type_57 rfl (lv_at hl 0 rfl) ?_
      refine gm_get (ci := 11) C0 hH inX11_type_X11 0 7 3 rfl rfl (by decide) rfl rfl dX11_type_58 ?_
      obtain rfl := Option.some.inj h
      exact gm_iret C0 hH dX11_type_61
    · replace h := gm_pos hc3 h
      refine lv_aload_n hx hb dX11_type_32 rfl (lv_at hl 0 rfl) ?_
      obtain ⟨o6, ho6, h⟩ := gm_bind_e h
      refine gm_callV (As := []) (rest := []) (n := 0) (ci := 11) (q0 := 0) C0 hH (mX11_full l dC dI cI q q_refused q_tongue q_fresh q_kept q_isKept q_text q_said q_talk 0 m_size m_at m_start m_token m_value m_faultAt m_allowed m_firstPair m_secondPair m_above m_below m_refused    ho6) gX11_type_X11_full rfl (by decide +kernel) ⟨rfl, rfl, Nat.le_of_ble_eq_true rfl, Nat.le_of_ble_eq_true rfl⟩ gm_T_ok (fun _ => trivial) [0, 1] rfl rfl rfl [0] rfl rfl rfl rfl hl.1 rfl (Nat.le_of_ble_eq_true rfl) dX11_type_33 ⟨Nat.zero_le _, Nat.zero_le _⟩ (fun H locs hH => ?_)
      have hH : gm_H (dC, dI) A s (wX11_type cI q q_refused q_text q_tongue q_fresh q_kept q_isKept q_said q_talk 0 m_size m_at m_start m_token m_value m_faultAt m_allowed m_firstPair m_secondPair m_above m_below o6.2 m_text) H locs := hH
      obtain rfl := Option.some.inj h
      exact gm_iret C0 hH dX11_type_36
  · replace h := gm_pos hc2 h
    refine lv_aload_n hx hb dX11_type_17 rfl (lv_at hl 0 rfl) ?_
    obtain ⟨o7, ho7, h⟩ := gm_bind_e h
    refine gm_callV (As := []) (rest := []) (n := 0) (ci := 11) (q0 := 0) C0 hH (mX11_bad l dC dI cI q q_refused q_tongue q_fresh q_kept q_isKept q_text q_said q_talk 0 m_size m_at m_start m_token m_value m_faultAt m_allowed m_firstPair m_secondPair m_above m_below m_refused    ho7) gX11_type_X11_bad rfl (by decide +kernel) ⟨rfl, rfl, Nat.le_of_ble_eq_true rfl, Nat.le_of_ble_eq_true rfl⟩ gm_T_ok (fun _ => trivial) [0, 1] rfl rfl rfl [0] rfl rfl rfl rfl hl.1 rfl (Nat.le_of_ble_eq_true rfl) dX11_type_18 ⟨Nat.zero_le _, Nat.zero_le _⟩ (fun H locs hH => ?_)
    have hH : gm_H (dC, dI) A s (wX11_type cI q q_refused q_text q_tongue q_fresh q_kept q_isKept q_said q_talk 0 m_size m_at m_start m_token m_value m_faultAt m_allowed m_firstPair m_secondPair m_above m_below o7.2 m_text) H locs := hH
    obtain rfl := Option.some.inj h
    exact gm_iret C0 hH dX11_type_21

/-! X11_clear -/
abbrev wX11_clear (q q_refused q_tongue q_fresh q_kept q_isKept q_text q_said q_talk : Nat) (m_thrown : Int32) (m_size : Int32) (m_at : Int32) (m_start : Int32) (m_token : Int32) (m_value : Int64) (m_faultAt : Int32) (m_allowed : Int32) (m_firstPair : Int32) (m_secondPair : Int32) (m_above : Int64) (m_below : Int64) : va_W := [(q, .inr (11, [.int m_thrown, .ref q_refused, .ref q_tongue, .ref q_fresh, .ref q_kept, .ref q_isKept, .ref q_text, .int m_size, .int m_at, .int m_start, .int m_token, .long m_value, .int m_faultAt, .ref q_said, .ref q_talk, .int m_allowed, .int m_firstPair, .int m_secondPair, .long m_above, .long m_below]))]
abbrev rX11_clear : Room := { frames := 0, cells := 0, slots := 0, locals := 0 }
def fX11_clear (N : Nat) (m_thrown : Int32) (m_size : Int32)  : Option (Int32 × Int32 × Int32) := some (m_size, 0, 0)
set_option maxRecDepth 20000 in
theorem inX11_clear_X11 : ∀ w ∈ u_ws RX11 TX11 20, w ∈ wsX11_clear := fun w h => by
  obtain ⟨k, hk, rfl⟩ := List.mem_map.mp h
  have hk2 := List.mem_range.mp hk
  exact List.mem_of_getElem? (i := 3 + k) (by rcases (show k = 0 ∨ k = 1 ∨ k = 2 ∨ k = 3 ∨ k = 4 ∨ k = 5 ∨ k = 6 ∨ k = 7 ∨ k = 8 ∨ k = 9 ∨ k = 10 ∨ k = 11 ∨ k = 12 ∨ k = 13 ∨ k = 14 ∨ k = 15 ∨ k = 16 ∨ k = 17 ∨ k = 18 ∨ k = 19 by omega) with rfl | rfl | rfl | rfl | rfl | rfl | rfl | rfl | rfl | rfl | rfl | rfl | rfl | rfl | rfl | rfl | rfl | rfl | rfl | rfl <;> rfl)
set_option maxRecDepth 100000 in
set_option maxHeartbeats 4000000 in
theorem mX11_clear (l : Launch) (dC : Nat → ClassId) (dI : Nat → Nat → Nat) (q q_refused q_tongue q_fresh q_kept q_isKept q_text q_said q_talk : Nat) (m_thrown : Int32) (m_size : Int32) (m_at : Int32) (m_start : Int32) (m_token : Int32) (m_value : Int64) (m_faultAt : Int32) (m_allowed : Int32) (m_firstPair : Int32) (m_secondPair : Int32) (m_above : Int64) (m_below : Int64)   {N : Nat} {out : Int32 × Int32 × Int32} (h : fX11_clear N m_thrown m_size = some out) : gm_Met l yX11_clear wsX11_clear rX11_clear (dC, dI) [] gm_T [.ref q] (wX11_clear  q q_refused q_tongue q_fresh q_kept q_isKept q_text q_said q_talk m_thrown m_size m_at m_start m_token m_value m_faultAt m_allowed m_firstPair m_secondPair m_above m_below) (some (.int out.1)) (wX11_clear  q q_refused q_tongue q_fresh q_kept q_isKept q_text q_said q_talk out.2.1 out.2.2 m_at m_start m_token m_value m_faultAt m_allowed m_firstPair m_secondPair m_above m_below) := by
  refine gm_ofW (cc := cX11_clear) (maxL := 2) (ret := (some .int)) (by decide +kernel) rfl (Nat.le_of_ble_eq_true rfl) ?_
  intro p e s m below meth c A C0 hH ls hl
  generalize ([.ref q] : List Value).toArray = args at C0 ⊢
  have hl : lv_has ls 2 [(0, .ref q)] := hl
  generalize s.heap = H at hH ⊢
  generalize ([] : List Loc) = locs at hH ⊢
  obtain ⟨hx, hb, hml, hr, hown, hts, hA, hK, hX, hlocks⟩ := id C0
  unfold fX11_clear at h
  refine lv_aload_n hx hb dX11_clear_0 rfl (lv_at hl 0 rfl) ?_
  refine lv_iconst (v := 0) hx hb dX11_clear_1 (by decide) ?_
  refine gm_putf (ci := 11) C0 hH inX11_clear_X11 tyX11_ok nmX11 0 0 1 rfl rfl (by decide) rfl rfl rfl rfl rfl (Nat.le_of_ble_eq_true rfl) dX11_clear_2 (fun H locs hH => ?_)
  have hH : gm_H (dC, dI) A s (wX11_clear  q q_refused q_tongue q_fresh q_kept q_isKept q_text q_said q_talk 0 m_size m_at m_start m_token m_value m_faultAt m_allowed m_firstPair m_secondPair m_above m_below) H locs := hH
  refine lv_aload_n hx hb dX11_clear_5 rfl (lv_at hl 0 rfl) ?_
  refine gm_get (ci := 11) C0 hH inX11_clear_X11 0 7 2 rfl rfl (by decide) rfl rfl dX11_clear_6 ?_
  refine lv_istore_n (lv' := [(1, .int m_size), (0, .ref q)]) hx hb dX11_clear_9 rfl hl (by decide) rfl (fun ls hl => ?_)
  refine lv_aload_n hx hb dX11_clear_10 rfl (lv_at hl 1 rfl) ?_
  refine lv_iconst (v := 0) hx hb dX11_clear_11 (by decide) ?_
  refine gm_putf (ci := 11) C0 hH inX11_clear_X11 tyX11_ok nmX11 0 7 2 rfl rfl (by decide) rfl rfl rfl rfl rfl (Nat.le_of_ble_eq_true rfl) dX11_clear_12 (fun H locs hH => ?_)
  have hH : gm_H (dC, dI) A s (wX11_clear  q q_refused q_tongue q_fresh q_kept q_isKept q_text q_said q_talk 0 0 m_at m_start m_token m_value m_faultAt m_allowed m_firstPair m_secondPair m_above m_below) H locs := hH
  refine lv_iload_n hx hb dX11_clear_15 rfl (lv_at hl 0 rfl) ?_
  obtain rfl := Option.some.inj h
  exact gm_iret C0 hH dX11_clear_16

/-! X11_isFigure -/
abbrev wX11_isFigure (cI : ClassId) (q q_text q_refused q_tongue q_fresh q_kept q_isKept q_said q_talk : Nat) (m_thrown : Int32) (m_size : Int32) (m_at : Int32) (m_start : Int32) (m_token : Int32) (m_value : Int64) (m_faultAt : Int32) (m_allowed : Int32) (m_firstPair : Int32) (m_secondPair : Int32) (m_above : Int64) (m_below : Int64) (m_text : Nat → Int32) : va_W := [(q, .inr (11, [.int m_thrown, .ref q_refused, .ref q_tongue, .ref q_fresh, .ref q_kept, .ref q_isKept, .ref q_text, .int m_size, .int m_at, .int m_start, .int m_token, .long m_value, .int m_faultAt, .ref q_said, .ref q_talk, .int m_allowed, .int m_firstPair, .int m_secondPair, .long m_above, .long m_below])), (q_text, .inl (cI, 150, .inl m_text))]
abbrev rX11_isFigure : Room := { frames := 1, cells := 0, slots := 0, locals := 25 }
def fX11_isFigure (N : Nat) (m_size : Int32) (m_at : Int32) (m_text : Nat → Int32)  : Option (Int32) := (if m_size ≤ m_at then some (0) else gm_chk m_at 150 (gm_bind (fX11_in N ((Int32.toInt64 (m_text (Int32.toNatClampNeg m_at)))) 48 57) (fun o3 => (if o3 = 0 then some (0) else some (1)))))
set_option maxRecDepth 20000 in
theorem inX11_isFigure_X11 : ∀ w ∈ u_ws RX11 TX11 20, w ∈ wsX11_isFigure := fun w h => by
  obtain ⟨k, hk, rfl⟩ := List.mem_map.mp h
  have hk2 := List.mem_range.mp hk
  exact List.mem_of_getElem? (i := 10 + k) (by rcases (show k = 0 ∨ k = 1 ∨ k = 2 ∨ k = 3 ∨ k = 4 ∨ k = 5 ∨ k = 6 ∨ k = 7 ∨ k = 8 ∨ k = 9 ∨ k = 10 ∨ k = 11 ∨ k = 12 ∨ k = 13 ∨ k = 14 ∨ k = 15 ∨ k = 16 ∨ k = 17 ∨ k = 18 ∨ k = 19 by omega) with rfl | rfl | rfl | rfl | rfl | rfl | rfl | rfl | rfl | rfl | rfl | rfl | rfl | rfl | rfl | rfl | rfl | rfl | rfl | rfl <;> rfl)
set_option maxRecDepth 100000 in
set_option maxHeartbeats 4000000 in
theorem mX11_isFigure (l : Launch) (dC : Nat → ClassId) (dI : Nat → Nat → Nat) (cI : ClassId) (q q_text q_refused q_tongue q_fresh q_kept q_isKept q_said q_talk : Nat) (m_thrown : Int32) (m_size : Int32) (m_at : Int32) (m_start : Int32) (m_token : Int32) (m_value : Int64) (m_faultAt : Int32) (m_allowed : Int32) (m_firstPair : Int32) (m_secondPair : Int32) (m_above : Int64) (m_below : Int64) (m_text : Nat → Int32)   {N : Nat} {out : Int32} (h : fX11_isFigure N m_size m_at m_text = some out) : gm_Met l yX11_isFigure wsX11_isFigure rX11_isFigure (dC, dI) [(cI, .int)] gm_T [.ref q] (wX11_isFigure cI q q_text q_refused q_tongue q_fresh q_kept q_isKept q_said q_talk m_thrown m_size m_at m_start m_token m_value m_faultAt m_allowed m_firstPair m_secondPair m_above m_below m_text) (some (.int out)) (wX11_isFigure cI q q_text q_refused q_tongue q_fresh q_kept q_isKept q_said q_talk m_thrown m_size m_at m_start m_token m_value m_faultAt m_allowed m_firstPair m_secondPair m_above m_below m_text) := by
  refine gm_ofW (cc := cX11_isFigure) (maxL := 1) (ret := (some .boolean)) (by decide +kernel) rfl (Nat.le_of_ble_eq_true rfl) ?_
  intro p e s m below meth c A C0 hH ls hl
  generalize ([.ref q] : List Value).toArray = args at C0 ⊢
  have hl : lv_has ls 1 [(0, .ref q)] := hl
  generalize s.heap = H at hH ⊢
  generalize ([] : List Loc) = locs at hH ⊢
  obtain ⟨hx, hb, hml, hr, hown, hts, hA, hK, hX, hlocks⟩ := id C0
  unfold fX11_isFigure at h
  refine lv_aload_n hx hb dX11_isFigure_0 rfl (lv_at hl 0 rfl) ?_
  refine gm_get (ci := 11) C0 hH inX11_isFigure_X11 0 8 1 rfl rfl (by decide) rfl rfl dX11_isFigure_1 ?_
  refine lv_aload_n hx hb dX11_isFigure_4 rfl (lv_at hl 0 rfl) ?_
  refine gm_get (ci := 11) C0 hH inX11_isFigure_X11 0 7 2 rfl rfl (by decide) rfl rfl dX11_isFigure_5 ?_
  refine lv_icmp_ge (tgt := 37) hx hb dX11_isFigure_8 (by decide) (fun hc1 => ?_) (fun hc1 => ?_)
  · replace h := gm_pos hc1 h
    refine lv_iconst (v := 0) hx hb dX11_isFigure_37 (by decide) ?_
    obtain rfl := Option.some.inj h
    exact gm_zret C0 hH (show narrow .boolean (.int 0) = .int 0 by decide) dX11_isFigure_38
  · replace h := gm_neg hc1 h
    refine lv_aload_n hx hb dX11_isFigure_11 rfl (lv_at hl 0 rfl) ?_
    refine gm_get (ci := 11) C0 hH inX11_isFigure_X11 0 6 3 rfl rfl (by decide) rfl rfl dX11_isFigure_12 ?_
    refine lv_aload_n hx hb dX11_isFigure_15 rfl (lv_at hl 0 rfl) ?_
    refine gm_get (ci := 11) C0 hH inX11_isFigure_X11 0 8 1 rfl rfl (by decide) rfl rfl dX11_isFigure_16 ?_
    obtain ⟨hi2, h⟩ := gm_chk_e h
    refine gm_iald C0 hH hi2 1 0 rfl rfl dX11_isFigure_19 ?_
    refine lv_i2l hx hb dX11_isFigure_20 rfl ?_
    refine lv_ldc2 (own := RX11) (v := 48) hx hb hown (gm_at C0 4 rfl) dX11_isFigure_21 ?_
    refine lv_ldc2 (own := RX11) (v := 57) hx hb hown (gm_at C0 5 rfl) dX11_isFigure_24 ?_
    obtain ⟨o3, ho3, h⟩ := gm_bind_e h
    refine gm_callS (As := [.long (Int32.toInt64 (m_text (Int32.toNatClampNeg m_at))), .long 48, .long 57]) (rest := []) (n := 3) C0 hH (mX11_in l dC dI    ((Int32.toInt64 (m_text (Int32.toNatClampNeg m_at)))) 48 57   ho3) gX11_isFigure_X11_in rfl (by decide +kernel) ⟨rfl, rfl, Nat.le_of_ble_eq_true rfl, Nat.le_of_ble_eq_true rfl⟩ gm_T_ok (fun _ => trivial) [] rfl rfl rfl [] rfl rfl hl.1 rfl (Nat.le_of_ble_eq_true rfl) dX11_isFigure_27 ⟨Nat.zero_le _, Nat.zero_le _⟩ (fun H locs hH => ?_)
    have hH : gm_H (dC, dI) A s (wX11_isFigure cI q q_text q_refused q_tongue q_fresh q_kept q_isKept q_said q_talk m_thrown m_size m_at m_start m_token m_value m_faultAt m_allowed m_firstPair m_secondPair m_above m_below m_text) H locs := hH
    refine lv_if_eq (tgt := 37) hx hb dX11_isFigure_30 (by decide) (fun hc4 => ?_) (fun hc4 => ?_)
    · replace h := gm_pos hc4 h
      refine lv_iconst (v := 0) hx hb dX11_isFigure_37 (by decide) ?_
      obtain rfl := Option.some.inj h
      exact gm_zret C0 hH (show narrow .boolean (.int 0) = .int 0 by decide) dX11_isFigure_38
    · replace h := gm_neg hc4 h
      refine lv_iconst (v := 1) hx hb dX11_isFigure_33 (by decide) ?_
      refine lv_goto (tgt := 38) hx hb dX11_isFigure_34 (by decide) ?_
      obtain rfl := Option.some.inj h
      exact gm_zret C0 hH (show narrow .boolean (.int 1) = .int 1 by decide) dX11_isFigure_38

/-! X11_isLetter -/
abbrev wX11_isLetter (cI : ClassId) (q q_text q_refused q_tongue q_fresh q_kept q_isKept q_said q_talk : Nat) (m_thrown : Int32) (m_size : Int32) (m_at : Int32) (m_start : Int32) (m_token : Int32) (m_value : Int64) (m_faultAt : Int32) (m_allowed : Int32) (m_firstPair : Int32) (m_secondPair : Int32) (m_above : Int64) (m_below : Int64) (m_text : Nat → Int32) : va_W := [(q, .inr (11, [.int m_thrown, .ref q_refused, .ref q_tongue, .ref q_fresh, .ref q_kept, .ref q_isKept, .ref q_text, .int m_size, .int m_at, .int m_start, .int m_token, .long m_value, .int m_faultAt, .ref q_said, .ref q_talk, .int m_allowed, .int m_firstPair, .int m_secondPair, .long m_above, .long m_below])), (q_text, .inl (cI, 150, .inl m_text))]
abbrev rX11_isLetter : Room := { frames := 1, cells := 0, slots := 0, locals := 25 }
def fX11_isLetter (N : Nat) (m_size : Int32) (m_at : Int32) (m_text : Nat → Int32)  : Option (Int32) := (if m_size ≤ m_at then some (0) else gm_chk m_at 150 (gm_bind (fX11_in N ((Int32.toInt64 (m_text (Int32.toNatClampNeg m_at)))) 97 122) (fun o3 => (if o3 = 0 then some (0) else some (1)))))
set_option maxRecDepth 20000 in
theorem inX11_isLetter_X11 : ∀ w ∈ u_ws RX11 TX11 20, w ∈ wsX11_isLetter := fun w h => by
  obtain ⟨k, hk, rfl⟩ := List.mem_map.mp h
  have hk2 := List.mem_range.mp hk
  exact List.mem_of_getElem? (i := 10 + k) (by rcases (show k = 0 ∨ k = 1 ∨ k = 2 ∨ k = 3 ∨ k = 4 ∨ k = 5 ∨ k = 6 ∨ k = 7 ∨ k = 8 ∨ k = 9 ∨ k = 10 ∨ k = 11 ∨ k = 12 ∨ k = 13 ∨ k = 14 ∨ k = 15 ∨ k = 16 ∨ k = 17 ∨ k = 18 ∨ k = 19 by omega) with rfl | rfl | rfl | rfl | rfl | rfl | rfl | rfl | rfl | rfl | rfl | rfl | rfl | rfl | rfl | rfl | rfl | rfl | rfl | rfl <;> rfl)
set_option maxRecDepth 100000 in
set_option maxHeartbeats 4000000 in
theorem mX11_isLetter (l : Launch) (dC : Nat → ClassId) (dI : Nat → Nat → Nat) (cI : ClassId) (q q_text q_refused q_tongue q_fresh q_kept q_isKept q_said q_talk : Nat) (m_thrown : Int32) (m_size : Int32) (m_at : Int32) (m_start : Int32) (m_token : Int32) (m_value : Int64) (m_faultAt : Int32) (m_allowed : Int32) (m_firstPair : Int32) (m_secondPair : Int32) (m_above : Int64) (m_below : Int64) (m_text : Nat → Int32)   {N : Nat} {out : Int32} (h : fX11_isLetter N m_size m_at m_text = some out) : gm_Met l yX11_isLetter wsX11_isLetter rX11_isLetter (dC, dI) [(cI, .int)] gm_T [.ref q] (wX11_isLetter cI q q_text q_refused q_tongue q_fresh q_kept q_isKept q_said q_talk m_thrown m_size m_at m_start m_token m_value m_faultAt m_allowed m_firstPair m_secondPair m_above m_below m_text) (some (.int out)) (wX11_isLetter cI q q_text q_refused q_tongue q_fresh q_kept q_isKept q_said q_talk m_thrown m_size m_at m_start m_token m_value m_faultAt m_allowed m_firstPair m_secondPair m_above m_below m_text) := by
  refine gm_ofW (cc := cX11_isLetter) (maxL := 1) (ret := (some .boolean)) (by decide +kernel) rfl (Nat.le_of_ble_eq_true rfl) ?_
  intro p e s m below meth c A C0 hH ls hl
  generalize ([.ref q] : List Value).toArray = args at C0 ⊢
  have hl : lv_has ls 1 [(0, .ref q)] := hl
  generalize s.heap = H at hH ⊢
  generalize ([] : List Loc) = locs at hH ⊢
  obtain ⟨hx, hb, hml, hr, hown, hts, hA, hK, hX, hlocks⟩ := id C0
  unfold fX11_isLetter at h
  refine lv_aload_n hx hb dX11_isLetter_0 rfl (lv_at hl 0 rfl) ?_
  refine gm_get (ci := 11) C0 hH inX11_isLetter_X11 0 8 1 rfl rfl (by decide) rfl rfl dX11_isLetter_1 ?_
  refine lv_aload_n hx hb dX11_isLetter_4 rfl (lv_at hl 0 rfl) ?_
  refine gm_get (ci := 11) C0 hH inX11_isLetter_X11 0 7 2 rfl rfl (by decide) rfl rfl dX11_isLetter_5 ?_
  refine lv_icmp_ge (tgt := 37) hx hb dX11_isLetter_8 (by decide) (fun hc1 => ?_) (fun hc1 => ?_)
  · replace h := gm_pos hc1 h
    refine lv_iconst (v := 0) hx hb dX11_isLetter_37 (by decide) ?_
    obtain rfl := Option.some.inj h
    exact gm_zret C0 hH (show narrow .boolean (.int 0) = .int 0 by decide) dX11_isLetter_38
  · replace h := gm_neg hc1 h
    refine lv_aload_n hx hb dX11_isLetter_11 rfl (lv_at hl 0 rfl) ?_
    refine gm_get (ci := 11) C0 hH inX11_isLetter_X11 0 6 3 rfl rfl (by decide) rfl rfl dX11_isLetter_12 ?_
    refine lv_aload_n hx hb dX11_isLetter_15 rfl (lv_at hl 0 rfl) ?_
    refine gm_get (ci := 11) C0 hH inX11_isLetter_X11 0 8 1 rfl rfl (by decide) rfl rfl dX11_isLetter_16 ?_
    obtain ⟨hi2, h⟩ := gm_chk_e h
    refine gm_iald C0 hH hi2 1 0 rfl rfl dX11_isLetter_19 ?_
    refine lv_i2l hx hb dX11_isLetter_20 rfl ?_
    refine lv_ldc2 (own := RX11) (v := 97) hx hb hown (gm_at C0 4 rfl) dX11_isLetter_21 ?_
    refine lv_ldc2 (own := RX11) (v := 122) hx hb hown (gm_at C0 5 rfl) dX11_isLetter_24 ?_
    obtain ⟨o3, ho3, h⟩ := gm_bind_e h
    refine gm_callS (As := [.long (Int32.toInt64 (m_text (Int32.toNatClampNeg m_at))), .long 97, .long 122]) (rest := []) (n := 3) C0 hH (mX11_in l dC dI    ((Int32.toInt64 (m_text (Int32.toNatClampNeg m_at)))) 97 122   ho3) gX11_isLetter_X11_in rfl (by decide +kernel) ⟨rfl, rfl, Nat.le_of_ble_eq_true rfl, Nat.le_of_ble_eq_true rfl⟩ gm_T_ok (fun _ => trivial) [] rfl rfl rfl [] rfl rfl hl.1 rfl (Nat.le_of_ble_eq_true rfl) dX11_isLetter_27 ⟨Nat.zero_le _, Nat.zero_le _⟩ (fun H locs hH => ?_)
    have hH : gm_H (dC, dI) A s (wX11_isLetter cI q q_text q_refused q_tongue q_fresh q_kept q_isKept q_said q_talk m_thrown m_size m_at m_start m_token m_value m_faultAt m_allowed m_firstPair m_secondPair m_above m_below m_text) H locs := hH
    refine lv_if_eq (tgt := 37) hx hb dX11_isLetter_30 (by decide) (fun hc4 => ?_) (fun hc4 => ?_)
    · replace h := gm_pos hc4 h
      refine lv_iconst (v := 0) hx hb dX11_isLetter_37 (by decide) ?_
      obtain rfl := Option.some.inj h
      exact gm_zret C0 hH (show narrow .boolean (.int 0) = .int 0 by decide) dX11_isLetter_38
    · replace h := gm_neg hc4 h
      refine lv_iconst (v := 1) hx hb dX11_isLetter_33 (by decide) ?_
      refine lv_goto (tgt := 38) hx hb dX11_isLetter_34 (by decide) ?_
      obtain rfl := Option.some.inj h
      exact gm_zret C0 hH (show narrow .boolean (.int 1) = .int 1 by decide) dX11_isLetter_38

/-! X11_next -/
abbrev wX11_next (cI : ClassId) (q q_text q_refused q_tongue q_fresh q_kept q_isKept q_said q_talk : Nat) (m_thrown : Int32) (m_size : Int32) (m_at : Int32) (m_start : Int32) (m_token : Int32) (m_value : Int64) (m_faultAt : Int32) (m_allowed : Int32) (m_firstPair : Int32) (m_secondPair : Int32) (m_above : Int64) (m_below : Int64) (m_text : Nat → Int32) : va_W := [(q, .inr (11, [.int m_thrown, .ref q_refused, .ref q_tongue, .ref q_fresh, .ref q_kept, .ref q_isKept, .ref q_text, .int m_size, .int m_at, .int m_start, .int m_token, .long m_value, .int m_faultAt, .ref q_said, .ref q_talk, .int m_allowed, .int m_firstPair, .int m_secondPair, .long m_above, .long m_below])), (q_text, .inl (cI, 150, .inl m_text))]
abbrev rX11_next : Room := { frames := 2, cells := 0, slots := 0, locals := 45 }
def fX11_next_b252 (N : Nat)  (m_at : Int32) (m_start : Int32) (m_token : Int32) (m_value : Int64) (k1 : Int32) : Option (Int32 × Int32 × Int32 × Int64) := gm_let ((m_at + 1) : Int32) (fun (v9 : Int32) => some (v9, m_start, k1, m_value))
def fX11_next_b226 (N : Nat)  (m_at : Int32) (m_start : Int32) (m_token : Int32) (m_value : Int64) (k1 : Int32) : Option (Int32 × Int32 × Int32 × Int64) := some (m_at, m_start, k1, m_value)
def fX11_next_b215 (N : Nat)  (m_at : Int32) (m_start : Int32) (m_token : Int32) (m_value : Int64) (x1 : Int32) : Option (Int32 × Int32 × Int32 × Int64) := (if x1 ≤ 2 then (fX11_next_b226 N  m_at m_start m_token m_value 3) else (fX11_next_b226 N  m_at m_start m_token m_value 0))
def fX11_next_b196 (N : Nat) (r153 : Int32 → Int64 → Int32 → Option (Int32 × Int32 × Int32 × Int64)) (m_size : Int32) (m_at : Int32) (m_start : Int32) (m_token : Int32) (m_value : Int64) (m_text : Nat → Int32) (x1 : Int32) (k1 : Int64) : Option (Int32 × Int32 × Int32 × Int64) := gm_let ((m_at + 1) : Int32) (fun (v14 : Int32) => (r153 v14 k1 ((x1 + 1))))
def fX11_next_b153_body (N : Nat)  (m_size : Int32) (m_start : Int32) (m_token : Int32) (m_text : Nat → Int32) (r153 : Int32 → Int64 → Int32 → Option (Int32 × Int32 × Int32 × Int64)) (m_at : Int32) (m_value : Int64) (x1 : Int32) : Option (Int32 × Int32 × Int32 × Int64) := gm_bind (fX11_isFigure N m_size m_at m_text) (fun o10 => (if o10 = 0 then (fX11_next_b215 N  m_at m_start m_token m_value x1) else (if 2 ≤ x1 then (fX11_next_b196 N r153 m_size m_at m_start m_token m_value m_text x1 m_value) else gm_chk m_at 150 ((fX11_next_b196 N r153 m_size m_at m_start m_token m_value m_text x1 ((((10 * m_value) + (Int32.toInt64 (m_text (Int32.toNatClampNeg m_at)))) - 48)))))))
def fX11_next_b153 (N : Nat)  (m_size : Int32) (m_start : Int32) (m_token : Int32) (m_text : Nat → Int32) (m_at : Int32) (m_value : Int64) (x1 : Int32) : Option (Int32 × Int32 × Int32 × Int64) := gm_fix (fX11_next_b153_body N  m_size m_start m_token m_text) (fun _ _ _ => none) N m_at m_value x1
def fX11_next_b127 (N : Nat) (r84 : Int32 → Int64 → Int32 → Option (Int32 × Int32 × Int32 × Int64)) (m_size : Int32) (m_at : Int32) (m_start : Int32) (m_token : Int32) (m_value : Int64) (m_text : Nat → Int32) (x1 : Int32) (k1 : Int64) : Option (Int32 × Int32 × Int32 × Int64) := gm_let ((m_at + 1) : Int32) (fun (v19 : Int32) => (r84 v19 k1 ((x1 + 1))))
def fX11_next_b84_body (N : Nat)  (m_size : Int32) (m_start : Int32) (m_token : Int32) (m_text : Nat → Int32) (r84 : Int32 → Int64 → Int32 → Option (Int32 × Int32 × Int32 × Int64)) (m_at : Int32) (m_value : Int64) (x1 : Int32) : Option (Int32 × Int32 × Int32 × Int64) := gm_bind (fX11_isLetter N m_size m_at m_text) (fun o16 => (if o16 = 0 then some (m_at, m_start, m_token, m_value) else (if 7 ≤ x1 then (fX11_next_b127 N r84 m_size m_at m_start m_token m_value m_text x1 ((-1))) else gm_chk m_at 150 ((fX11_next_b127 N r84 m_size m_at m_start m_token m_value m_text x1 ((((27 * m_value) + (Int32.toInt64 (m_text (Int32.toNatClampNeg m_at)))) - 96)))))))
def fX11_next_b84 (N : Nat)  (m_size : Int32) (m_start : Int32) (m_token : Int32) (m_text : Nat → Int32) (m_at : Int32) (m_value : Int64) (x1 : Int32) : Option (Int32 × Int32 × Int32 × Int64) := gm_fix (fX11_next_b84_body N  m_size m_start m_token m_text) (fun _ _ _ => none) N m_at m_value x1
def fX11_next_b38 (N : Nat)  (m_size : Int32) (m_at : Int32) (m_start : Int32) (m_token : Int32) (m_value : Int64) (m_text : Nat → Int32) : Option (Int32 × Int32 × Int32 × Int64) := (if m_at = m_size then some (m_at, m_at, 1, 0) else gm_bind (fX11_isLetter N m_size m_at m_text) (fun o3 => (if o3 = 0 then gm_bind (fX11_isFigure N m_size m_at m_text) (fun o5 => (if o5 = 0 then gm_chk m_at 150 ((if (m_text (Int32.toNatClampNeg m_at)) = 59 then (fX11_next_b252 N  m_at m_at m_token 0 4) else (fX11_next_b252 N  m_at m_at m_token 0 0))) else (fX11_next_b153 N  m_size m_at m_token m_text m_at 0 0))) else (fX11_next_b84 N  m_size m_at 2 m_text m_at 0 0))))
def fX11_next_b0_body (N : Nat)  (m_size : Int32) (m_start : Int32) (m_token : Int32) (m_value : Int64) (m_text : Nat → Int32) (r0 : Int32 → Option (Int32 × Int32 × Int32 × Int64)) (m_at : Int32) : Option (Int32 × Int32 × Int32 × Int64) := (if m_size ≤ m_at then (fX11_next_b38 N  m_size m_at m_start m_token m_value m_text) else gm_chk m_at 150 ((if (m_text (Int32.toNatClampNeg m_at)) = 32 then gm_let ((m_at + 1) : Int32) (fun (v23 : Int32) => (r0 v23)) else (fX11_next_b38 N  m_size m_at m_start m_token m_value m_text))))
def fX11_next_b0 (N : Nat)  (m_size : Int32) (m_start : Int32) (m_token : Int32) (m_value : Int64) (m_text : Nat → Int32) (m_at : Int32) : Option (Int32 × Int32 × Int32 × Int64) := gm_fix (fX11_next_b0_body N  m_size m_start m_token m_value m_text) (fun _ => none) N m_at
def fX11_next (N : Nat) (m_size : Int32) (m_at : Int32) (m_start : Int32) (m_token : Int32) (m_value : Int64) (m_text : Nat → Int32)  : Option (Int32 × Int32 × Int32 × Int64) := (fX11_next_b0 N  m_size m_start m_token m_value m_text m_at)
set_option maxRecDepth 20000 in
theorem inX11_next_X11 : ∀ w ∈ u_ws RX11 TX11 20, w ∈ wsX11_next := fun w h => by
  obtain ⟨k, hk, rfl⟩ := List.mem_map.mp h
  have hk2 := List.mem_range.mp hk
  exact List.mem_of_getElem? (i := 27 + k) (by rcases (show k = 0 ∨ k = 1 ∨ k = 2 ∨ k = 3 ∨ k = 4 ∨ k = 5 ∨ k = 6 ∨ k = 7 ∨ k = 8 ∨ k = 9 ∨ k = 10 ∨ k = 11 ∨ k = 12 ∨ k = 13 ∨ k = 14 ∨ k = 15 ∨ k = 16 ∨ k = 17 ∨ k = 18 ∨ k = 19 by omega) with rfl | rfl | rfl | rfl | rfl | rfl | rfl | rfl | rfl | rfl | rfl | rfl | rfl | rfl | rfl | rfl | rfl | rfl | rfl | rfl <;> rfl)
set_option maxRecDepth 100000 in
set_option maxHeartbeats 4000000 in
theorem tX11_next_b252 {p : Program} {l : Launch} {e : Env} {s : State} {m : MethodId} {args : Array Value} {below : List Frame} {meth : Method} {c : Code} {A : Nat → Prop} {dC : Nat → ClassId} {dI : Nat → Nat → Nat} {cI : ClassId} {q q_text q_refused q_tongue q_fresh q_kept q_isKept q_said q_talk : Nat} {m_thrown : Int32} {m_size : Int32} {m_at : Int32} {m_start : Int32} {m_token : Int32} {m_value : Int64} {m_faultAt : Int32} {m_allowed : Int32} {m_firstPair : Int32} {m_secondPair : Int32} {m_above : Int64} {m_below : Int64} {m_text : Nat → Int32} {k1 : Int32} (C0 : gm_C p s m args meth c (dC, dI) [(cI, .int)] A gm_T RX11 cX11_next 2 none wsX11_next) {N : Nat} {out : Int32 × Int32 × Int32 × Int64}    {H : Heap} {locs : List Loc} {ls : Array Slot} (h : fX11_next_b252 N  m_at m_start m_token m_value k1 = some out) (hH : gm_H (dC, dI) A s (wX11_next cI q q_text q_refused q_tongue q_fresh q_kept q_isKept q_said q_talk m_thrown m_size m_at m_start m_token m_value m_faultAt m_allowed m_firstPair m_secondPair m_above m_below m_text) H locs) (hl : lv_has ls 2 [(0, .ref q)]) : W p l e rX11_next s m args below meth c H locs 0 0 (MQ below (gm_Q (dC, dI) [(cI, .int)] A none (wX11_next cI q q_text q_refused q_tongue q_fresh q_kept q_isKept q_said q_talk m_thrown m_size out.1 out.2.1 out.2.2.1 out.2.2.2 m_faultAt m_allowed m_firstPair m_secondPair m_above m_below m_text)) args s 0 0 A) (F0 m 252 ls [.int k1, .ref q]) := by
  obtain ⟨hx, hb, hml, hr, hown, hts, hA, hK, hX, hlocks⟩ := id C0
  unfold fX11_next_b252 at h
  refine gm_putf (ci := 11) C0 hH inX11_next_X11 tyX11_ok nmX11 0 10 6 rfl rfl (by decide) rfl rfl rfl rfl rfl (Nat.le_of_ble_eq_true rfl) dX11_next_252 (fun H locs hH => ?_)
  have hH : gm_H (dC, dI) A s (wX11_next cI q q_text q_refused q_tongue q_fresh q_kept q_isKept q_said q_talk m_thrown m_size m_at m_start k1 m_value m_faultAt m_allowed m_firstPair m_secondPair m_above m_below m_text) H locs := hH
  refine lv_aload_n hx hb dX11_next_255 rfl (lv_at hl 0 rfl) ?_
  refine lv_dup hx hb dX11_next_256 rfl ?_
  refine gm_get (ci := 11) C0 hH inX11_next_X11 0 8 1 rfl rfl (by decide) rfl rfl dX11_next_257 ?_
  refine lv_iconst (v := 1) hx hb dX11_next_260 (by decide) ?_
  refine lv_iadd hx hb dX11_next_261 ?_
  refine lv_topi (fun v9 ev9 => ?_)
  replace h := gm_let_e ev9 h
  refine gm_putf (ci := 11) C0 hH inX11_next_X11 tyX11_ok nmX11 0 8 1 rfl rfl (by decide) rfl rfl rfl rfl rfl (Nat.le_of_ble_eq_true rfl) dX11_next_262 (fun H locs hH => ?_)
  have hH : gm_H (dC, dI) A s (wX11_next cI q q_text q_refused q_tongue q_fresh q_kept q_isKept q_said q_talk m_thrown m_size v9 m_start k1 m_value m_faultAt m_allowed m_firstPair m_secondPair m_above m_below m_text) H locs := hH
  obtain rfl := Option.some.inj h
  exact gm_vret C0 hH dX11_next_265
set_option maxRecDepth 100000 in
set_option maxHeartbeats 4000000 in
theorem tX11_next_b226 {p : Program} {l : Launch} {e : Env} {s : State} {m : MethodId} {args : Array Value} {below : List Frame} {meth : Method} {c : Code} {A : Nat → Prop} {dC : Nat → ClassId} {dI : Nat → Nat → Nat} {cI : ClassId} {q q_text q_refused q_tongue q_fresh q_kept q_isKept q_said q_talk : Nat} {m_thrown : Int32} {m_size : Int32} {m_at : Int32} {m_start : Int32} {m_token : Int32} {m_value : Int64} {m_faultAt : Int32} {m_allowed : Int32} {m_firstPair : Int32} {m_secondPair : Int32} {m_above : Int64} {m_below : Int64} {m_text : Nat → Int32} {k1 : Int32} (C0 : gm_C p s m args meth c (dC, dI) [(cI, .int)] A gm_T RX11 cX11_next 2 none wsX11_next) {N : Nat} {out : Int32 × Int32 × Int32 × Int64}    {H : Heap} {locs : List Loc} {ls : Array Slot} (h : fX11_next_b226 N  m_at m_start m_token m_value k1 = some out) (hH : gm_H (dC, dI) A s (wX11_next cI q q_text q_refused q_tongue q_fresh q_kept q_isKept q_said q_talk m_thrown m_size m_at m_start m_token m_value m_faultAt m_allowed m_firstPair m_secondPair m_above m_below m_text) H locs) (hl : lv_has ls 2 []) : W p l e rX11_next s m args below meth c H locs 0 0 (MQ below (gm_Q (dC, dI) [(cI, .int)] A none (wX11_next cI q q_text q_refused q_tongue q_fresh q_kept q_isKept q_said q_talk m_thrown m_size out.1 out.2.1 out.2.2.1 out.2.2.2 m_faultAt m_allowed m_firstPair m_secondPair m_above m_below m_text)) args s 0 0 A) (F0 m 226 ls [.int k1, .ref q]) := by
  obtain ⟨hx, hb, hml, hr, hown, hts, hA, hK, hX, hlocks⟩ := id C0
  unfold fX11_next_b226 at h
  refine gm_putf (ci := 11) C0 hH inX11_next_X11 tyX11_ok nmX11 0 10 6 rfl rfl (by decide) rfl rfl rfl rfl rfl (Nat.le_of_ble_eq_true rfl) dX11_next_226 (fun H locs hH => ?_)
  have hH : gm_H (dC, dI) A s (wX11_next cI q q_text q_refused q_tongue q_fresh q_kept q_isKept q_said q_talk m_thrown m_size m_at m_start k1 m_value m_faultAt m_allowed m_firstPair m_secondPair m_above m_below m_text) H locs := hH
  refine lv_goto (tgt := 265) hx hb dX11_next_229 (by decide) ?_
  obtain rfl := Option.some.inj h
  exact gm_vret C0 hH dX11_next_265
set_option maxRecDepth 100000 in
set_option maxHeartbeats 4000000 in
theorem tX11_next_b215 {p : Program} {l : Launch} {e : Env} {s : State} {m : MethodId} {args : Array Value} {below : List Frame} {meth : Method} {c : Code} {A : Nat → Prop} {dC : Nat → ClassId} {dI : Nat → Nat → Nat} {cI : ClassId} {q q_text q_refused q_tongue q_fresh q_kept q_isKept q_said q_talk : Nat} {m_thrown : Int32} {m_size : Int32} {m_at : Int32} {m_start : Int32} {m_token : Int32} {m_value : Int64} {m_faultAt : Int32} {m_allowed : Int32} {m_firstPair : Int32} {m_secondPair : Int32} {m_above : Int64} {m_below : Int64} {m_text : Nat → Int32} {x1 : Int32} (C0 : gm_C p s m args meth c (dC, dI) [(cI, .int)] A gm_T RX11 cX11_next 2 none wsX11_next) {N : Nat} {out : Int32 × Int32 × Int32 × Int64}    {H : Heap} {locs : List Loc} {ls : Array Slot} (h : fX11_next_b215 N  m_at m_start m_token m_value x1 = some out) (hH : gm_H (dC, dI) A s (wX11_next cI q q_text q_refused q_tongue q_fresh q_kept q_isKept q_said q_talk m_thrown m_size m_at m_start m_token m_value m_faultAt m_allowed m_firstPair m_secondPair m_above m_below m_text) H locs) (hl : lv_has ls 2 [(0, .ref q), (1, .int x1)]) : W p l e rX11_next s m args below meth c H locs 0 0 (MQ below (gm_Q (dC, dI) [(cI, .int)] A none (wX11_next cI q q_text q_refused q_tongue q_fresh q_kept q_isKept q_said q_talk m_thrown m_size out.1 out.2.1 out.2.2.1 out.2.2.2 m_faultAt m_allowed m_firstPair m_secondPair m_above m_below m_text)) args s 0 0 A) (F0 m 215 ls []) := by
  obtain ⟨hx, hb, hml, hr, hown, hts, hA, hK, hX, hlocks⟩ := id C0
  unfold fX11_next_b215 at h
  refine lv_aload_n hx hb dX11_next_215 rfl (lv_at hl 0 rfl) ?_
  refine lv_iload_n hx hb dX11_next_216 rfl (lv_at hl 1 rfl) ?_
  refine lv_iconst (v := 2) hx hb dX11_next_217 (by decide) ?_
  refine lv_icmp_le (tgt := 225) hx hb dX11_next_218 (by decide) (fun hc12 => ?_) (fun hc12 => ?_)
  · replace h := gm_pos hc12 h
    refine lv_iconst (v := 3) hx hb dX11_next_225 (by decide) ?_
    exact tX11_next_b226 C0  h hH (lv_sub hl [] rfl)
  · replace h := gm_neg hc12 h
    refine lv_iconst (v := 0) hx hb dX11_next_221 (by decide) ?_
    refine lv_goto (tgt := 226) hx hb dX11_next_222 (by decide) ?_
    exact tX11_next_b226 C0  h hH (lv_sub hl [] rfl)
set_option maxRecDepth 100000 in
set_option maxHeartbeats 4000000 in
theorem tX11_next_b196 {p : Program} {l : Launch} {e : Env} {s : State} {m : MethodId} {args : Array Value} {below : List Frame} {meth : Method} {c : Code} {A : Nat → Prop} {dC : Nat → ClassId} {dI : Nat → Nat → Nat} {cI : ClassId} {q q_text q_refused q_tongue q_fresh q_kept q_isKept q_said q_talk : Nat} {m_thrown : Int32} {m_size : Int32} {m_at : Int32} {m_start : Int32} {m_token : Int32} {m_value : Int64} {m_faultAt : Int32} {m_allowed : Int32} {m_firstPair : Int32} {m_secondPair : Int32} {m_above : Int64} {m_below : Int64} {m_text : Nat → Int32} {x1 : Int32} {k1 : Int64} (C0 : gm_C p s m args meth c (dC, dI) [(cI, .int)] A gm_T RX11 cX11_next 2 none wsX11_next) {N : Nat} {out : Int32 × Int32 × Int32 × Int64} {r153 : Int32 → Int64 → Int32 → Option (Int32 × Int32 × Int32 × Int64)} (hr153 : ∀ (m_at : Int32) (m_value : Int64) (x1 : Int32) (H : Heap) (locs : List Loc) (ls : Array Slot), r153 m_at m_value x1 = some out → gm_H (dC, dI) A s (wX11_next cI q q_text q_refused q_tongue q_fresh q_kept q_isKept q_said q_talk m_thrown m_size m_at m_start m_token m_value m_faultAt m_allowed m_firstPair m_secondPair m_above m_below m_text) H locs → lv_has ls 2 [(0, .ref q), (1, .int x1)] → W p l e rX11_next s m args below meth c H locs 0 0 (MQ below (gm_Q (dC, dI) [(cI, .int)] A none (wX11_next cI q q_text q_refused q_tongue q_fresh q_kept q_isKept q_said q_talk m_thrown m_size out.1 out.2.1 out.2.2.1 out.2.2.2 m_faultAt m_allowed m_firstPair m_secondPair m_above m_below m_text)) args s 0 0 A) (F0 m 153 ls []))   {H : Heap} {locs : List Loc} {ls : Array Slot} (h : fX11_next_b196 N r153 m_size m_at m_start m_token m_value m_text x1 k1 = some out) (hH : gm_H (dC, dI) A s (wX11_next cI q q_text q_refused q_tongue q_fresh q_kept q_isKept q_said q_talk m_thrown m_size m_at m_start m_token m_value m_faultAt m_allowed m_firstPair m_secondPair m_above m_below m_text) H locs) (hl : lv_has ls 2 [(0, .ref q), (1, .int x1)]) : W p l e rX11_next s m args below meth c H locs 0 0 (MQ below (gm_Q (dC, dI) [(cI, .int)] A none (wX11_next cI q q_text q_refused q_tongue q_fresh q_kept q_isKept q_said q_talk m_thrown m_size out.1 out.2.1 out.2.2.1 out.2.2.2 m_faultAt m_allowed m_firstPair m_secondPair m_above m_below m_text)) args s 0 0 A) (F0 m 196 ls [.long k1, .ref q]) := by
  obtain ⟨hx, hb, hml, hr, hown, hts, hA, hK, hX, hlocks⟩ := id C0
  unfold fX11_next_b196 at h
  refine gm_putf (ci := 11) C0 hH inX11_next_X11 tyX11_ok nmX11 0 11 5 rfl rfl (by decide) rfl rfl rfl rfl rfl (Nat.le_of_ble_eq_true rfl) dX11_next_196 (fun H locs hH => ?_)
  have hH : gm_H (dC, dI) A s (wX11_next cI q q_text q_refused q_tongue q_fresh q_kept q_isKept q_said q_talk m_thrown m_size m_at m_start m_token k1 m_faultAt m_allowed m_firstPair m_secondPair m_above m_below m_text) H locs := hH
  refine lv_iinc (v := (x1 + 1)) (lv' := [(1, .int (x1 + 1)), (0, .ref q)]) hx hb dX11_next_199 hl (k := 1) rfl rfl (by decide) rfl (fun ls hl => ?_)
  refine lv_aload_n hx hb dX11_next_202 rfl (lv_at hl 1 rfl) ?_
  refine lv_dup hx hb dX11_next_203 rfl ?_
  refine gm_get (ci := 11) C0 hH inX11_next_X11 0 8 1 rfl rfl (by decide) rfl rfl dX11_next_204 ?_
  refine lv_iconst (v := 1) hx hb dX11_next_207 (by decide) ?_
  refine lv_iadd hx hb dX11_next_208 ?_
  refine lv_topi (fun v14 ev14 => ?_)
  replace h := gm_let_e ev14 h
  refine gm_putf (ci := 11) C0 hH inX11_next_X11 tyX11_ok nmX11 0 8 1 rfl rfl (by decide) rfl rfl rfl rfl rfl (Nat.le_of_ble_eq_true rfl) dX11_next_209 (fun H locs hH => ?_)
  have hH : gm_H (dC, dI) A s (wX11_next cI q q_text q_refused q_tongue q_fresh q_kept q_isKept q_said q_talk m_thrown m_size v14 m_start m_token k1 m_faultAt m_allowed m_firstPair m_secondPair m_above m_below m_text) H locs := hH
  refine lv_goto (tgt := 153) hx hb dX11_next_212 (by decide) ?_
  exact hr153 _ _ _ _ _ _ h hH (lv_sub hl [1, 0] rfl)
set_option maxRecDepth 100000 in
set_option maxHeartbeats 4000000 in
theorem tX11_next_b153 {p : Program} {l : Launch} {e : Env} {s : State} {m : MethodId} {args : Array Value} {below : List Frame} {meth : Method} {c : Code} {A : Nat → Prop} {dC : Nat → ClassId} {dI : Nat → Nat → Nat} {cI : ClassId} {q q_text q_refused q_tongue q_fresh q_kept q_isKept q_said q_talk : Nat} {m_thrown : Int32} {m_size : Int32} {m_start : Int32} {m_token : Int32} {m_faultAt : Int32} {m_allowed : Int32} {m_firstPair : Int32} {m_secondPair : Int32} {m_above : Int64} {m_below : Int64} {m_text : Nat → Int32} (C0 : gm_C p s m args meth c (dC, dI) [(cI, .int)] A gm_T RX11 cX11_next 2 none wsX11_next) {N : Nat} {out : Int32 × Int32 × Int32 × Int64}   : ∀ (n : Nat), ∀ (m_at : Int32) (m_value : Int64) (x1 : Int32) (H : Heap) (locs : List Loc) (ls : Array Slot), (gm_fix (fX11_next_b153_body N  m_size m_start m_token m_text) (fun _ _ _ => none) n) m_at m_value x1 = some out → gm_H (dC, dI) A s (wX11_next cI q q_text q_refused q_tongue q_fresh q_kept q_isKept q_said q_talk m_thrown m_size m_at m_start m_token m_value m_faultAt m_allowed m_firstPair m_secondPair m_above m_below m_text) H locs → lv_has ls 2 [(0, .ref q), (1, .int x1)] → W p l e rX11_next s m args below meth c H locs 0 0 (MQ below (gm_Q (dC, dI) [(cI, .int)] A none (wX11_next cI q q_text q_refused q_tongue q_fresh q_kept q_isKept q_said q_talk m_thrown m_size out.1 out.2.1 out.2.2.1 out.2.2.2 m_faultAt m_allowed m_firstPair m_secondPair m_above m_below m_text)) args s 0 0 A) (F0 m 153 ls []) := by
  obtain ⟨hx, hb, hml, hr, hown, hts, hA, hK, hX, hlocks⟩ := id C0
  intro n
  induction n with
  | zero =>
    intro m_at m_value x1 H locs ls h hH hl
    cases h
  | succ n hr153 =>
    intro m_at m_value x1 H locs ls h hH hl
    rw [gm_fix_s] at h
    unfold fX11_next_b153_body at h
    refine lv_aload_n hx hb dX11_next_153 rfl (lv_at hl 0 rfl) ?_
    obtain ⟨o10, ho10, h⟩ := gm_bind_e h
    refine gm_callV (As := []) (rest := []) (n := 0) (ci := 11) (q0 := 0) C0 hH (mX11_isFigure l dC dI cI q q_text q_refused q_tongue q_fresh q_kept q_isKept q_said q_talk m_thrown m_size m_at m_start m_token m_value m_faultAt m_allowed m_firstPair m_secondPair m_above m_below m_text    ho10) gX11_next_X11_isFigure rfl (by decide +kernel) ⟨rfl, rfl, Nat.le_of_ble_eq_true rfl, Nat.le_of_ble_eq_true rfl⟩ gm_T_ok (fun _ => trivial) [0, 1] rfl rfl rfl [0] rfl rfl rfl rfl hl.1 rfl (Nat.le_of_ble_eq_true rfl) dX11_next_154 ⟨Nat.zero_le _, Nat.zero_le _⟩ (fun H locs hH => ?_)
    have hH : gm_H (dC, dI) A s (wX11_next cI q q_text q_refused q_tongue q_fresh q_kept q_isKept q_said q_talk m_thrown m_size m_at m_start m_token m_value m_faultAt m_allowed m_firstPair m_secondPair m_above m_below m_text) H locs := hH
    refine lv_if_eq (tgt := 215) hx hb dX11_next_157 (by decide) (fun hc11 => ?_) (fun hc11 => ?_)
    · replace h := gm_pos hc11 h
      exact tX11_next_b215 C0  h hH (lv_sub hl [0, 1] rfl)
    · replace h := gm_neg hc11 h
      refine lv_aload_n hx hb dX11_next_160 rfl (lv_at hl 0 rfl) ?_
      refine lv_iload_n hx hb dX11_next_161 rfl (lv_at hl 1 rfl) ?_
      refine lv_iconst (v := 2) hx hb dX11_next_162 (by decide) ?_
      refine lv_icmp_ge (tgt := 192) hx hb dX11_next_163 (by decide) (fun hc13 => ?_) (fun hc13 => ?_)
      · replace h := gm_pos hc13 h
        refine lv_aload_n hx hb dX11_next_192 rfl (lv_at hl 0 rfl) ?_
        refine gm_get (ci := 11) C0 hH inX11_next_X11 0 11 5 rfl rfl (by decide) rfl rfl dX11_next_193 ?_
        exact tX11_next_b196 C0 hr153 h hH (lv_sub hl [0, 1] rfl)
      · replace h := gm_neg hc13 h
        refine lv_ldc2 (own := RX11) (v := 10) hx hb hown (gm_at C0 10 rfl) dX11_next_166 ?_
        refine lv_aload_n hx hb dX11_next_169 rfl (lv_at hl 0 rfl) ?_
        refine gm_get (ci := 11) C0 hH inX11_next_X11 0 11 5 rfl rfl (by decide) rfl rfl dX11_next_170 ?_
        refine lv_lmul hx hb dX11_next_173 ?_
        refine lv_aload_n hx hb dX11_next_174 rfl (lv_at hl 0 rfl) ?_
        refine gm_get (ci := 11) C0 hH inX11_next_X11 0 6 3 rfl rfl (by decide) rfl rfl dX11_next_175 ?_
        refine lv_aload_n hx hb dX11_next_178 rfl (lv_at hl 0 rfl) ?_
        refine gm_get (ci := 11) C0 hH inX11_next_X11 0 8 1 rfl rfl (by decide) rfl rfl dX11_next_179 ?_
        obtain ⟨hi15, h⟩ := gm_chk_e h
        refine gm_iald C0 hH hi15 1 0 rfl rfl dX11_next_182 ?_
        refine lv_i2l hx hb dX11_next_183 rfl ?_
        refine lv_ladd hx hb dX11_next_184 ?_
        refine lv_ldc2 (own := RX11) (v := 48) hx hb hown (gm_at C0 11 rfl) dX11_next_185 ?_
        refine lv_lsub hx hb dX11_next_188 ?_
        refine lv_goto (tgt := 196) hx hb dX11_next_189 (by decide) ?_
        exact tX11_next_b196 C0 hr153 h hH (lv_sub hl [0, 1] rfl)
set_option maxRecDepth 100000 in
set_option maxHeartbeats 4000000 in
theorem tX11_next_b127 {p : Program} {l : Launch} {e : Env} {s : State} {m : MethodId} {args : Array Value} {below : List Frame} {meth : Method} {c : Code} {A : Nat → Prop} {dC : Nat → ClassId} {dI : Nat → Nat → Nat} {cI : ClassId} {q q_text q_refused q_tongue q_fresh q_kept q_isKept q_said q_talk : Nat} {m_thrown : Int32} {m_size : Int32} {m_at : Int32} {m_start : Int32} {m_token : Int32} {m_value : Int64} {m_faultAt : Int32} {m_allowed : Int32} {m_firstPair : Int32} {m_secondPair : Int32} {m_above : Int64} {m_below : Int64} {m_text : Nat → Int32} {x1 : Int32} {k1 : Int64} (C0 : gm_C p s m args meth c (dC, dI) [(cI, .int)] A gm_T RX11 cX11_next 2 none wsX11_next) {N : Nat} {out : Int32 × Int32 × Int32 × Int64} {r84 : Int32 → Int64 → Int32 → Option (Int32 × Int32 × Int32 × Int64)} (hr84 : ∀ (m_at : Int32) (m_value : Int64) (x1 : Int32) (H : Heap) (locs : List Loc) (ls : Array Slot), r84 m_at m_value x1 = some out → gm_H (dC, dI) A s (wX11_next cI q q_text q_refused q_tongue q_fresh q_kept q_isKept q_said q_talk m_thrown m_size m_at m_start m_token m_value m_faultAt m_allowed m_firstPair m_secondPair m_above m_below m_text) H locs → lv_has ls 2 [(0, .ref q), (1, .int x1)] → W p l e rX11_next s m args below meth c H locs 0 0 (MQ below (gm_Q (dC, dI) [(cI, .int)] A none (wX11_next cI q q_text q_refused q_tongue q_fresh q_kept q_isKept q_said q_talk m_thrown m_size out.1 out.2.1 out.2.2.1 out.2.2.2 m_faultAt m_allowed m_firstPair m_secondPair m_above m_below m_text)) args s 0 0 A) (F0 m 84 ls []))   {H : Heap} {locs : List Loc} {ls : Array Slot} (h : fX11_next_b127 N r84 m_size m_at m_start m_token m_value m_text x1 k1 = some out) (hH : gm_H (dC, dI) A s (wX11_next cI q q_text q_refused q_tongue q_fresh q_kept q_isKept q_said q_talk m_thrown m_size m_at m_start m_token m_value m_faultAt m_allowed m_firstPair m_secondPair m_above m_below m_text) H locs) (hl : lv_has ls 2 [(0, .ref q), (1, .int x1)]) : W p l e rX11_next s m args below meth c H locs 0 0 (MQ below (gm_Q (dC, dI) [(cI, .int)] A none (wX11_next cI q q_text q_refused q_tongue q_fresh q_kept q_isKept q_said q_talk m_thrown m_size out.1 out.2.1 out.2.2.1 out.2.2.2 m_faultAt m_allowed m_firstPair m_secondPair m_above m_below m_text)) args s 0 0 A) (F0 m 127 ls [.long k1, .ref q]) := by
  obtain ⟨hx, hb, hml, hr, hown, hts, hA, hK, hX, hlocks⟩ := id C0
  unfold fX11_next_b127 at h
  refine gm_putf (ci := 11) C0 hH inX11_next_X11 tyX11_ok nmX11 0 11 5 rfl rfl (by decide) rfl rfl rfl rfl rfl (Nat.le_of_ble_eq_true rfl) dX11_next_127 (fun H locs hH => ?_)
  have hH : gm_H (dC, dI) A s (wX11_next cI q q_text q_refused q_tongue q_fresh q_kept q_isKept q_said q_talk m_thrown m_size m_at m_start m_token k1 m_faultAt m_allowed m_firstPair m_secondPair m_above m_below m_text) H locs := hH
  refine lv_iinc (v := (x1 + 1)) (lv' := [(1, .int (x1 + 1)), (0, .ref q)]) hx hb dX11_next_130 hl (k := 1) rfl rfl (by decide) rfl (fun ls hl => ?_)
  refine lv_aload_n hx hb dX11_next_133 rfl (lv_at hl 1 rfl) ?_
  refine lv_dup hx hb dX11_next_134 rfl ?_
  refine gm_get (ci := 11) C0 hH inX11_next_X11 0 8 1 rfl rfl (by decide) rfl rfl dX11_next_135 ?_
  refine lv_iconst (v := 1) hx hb dX11_next_138 (by decide) ?_
  refine lv_iadd hx hb dX11_next_139 ?_
  refine lv_topi (fun v19 ev19 => ?_)
  replace h := gm_let_e ev19 h
  refine gm_putf (ci := 11) C0 hH inX11_next_X11 tyX11_ok nmX11 0 8 1 rfl rfl (by decide) rfl rfl rfl rfl rfl (Nat.le_of_ble_eq_true rfl) dX11_next_140 (fun H locs hH => ?_)
  have hH : gm_H (dC, dI) A s (wX11_next cI q q_text q_refused q_tongue q_fresh q_kept q_isKept q_said q_talk m_thrown m_size v19 m_start m_token k1 m_faultAt m_allowed m_firstPair m_secondPair m_above m_below m_text) H locs := hH
  refine lv_goto (tgt := 84) hx hb dX11_next_143 (by decide) ?_
  exact hr84 _ _ _ _ _ _ h hH (lv_sub hl [1, 0] rfl)
set_option maxRecDepth 100000 in
set_option maxHeartbeats 4000000 in
theorem tX11_next_b84 {p : Program} {l : Launch} {e : Env} {s : State} {m : MethodId} {args : Array Value} {below : List Frame} {meth : Method} {c : Code} {A : Nat → Prop} {dC : Nat → ClassId} {dI : Nat → Nat → Nat} {cI : ClassId} {q q_text q_refused q_tongue q_fresh q_kept q_isKept q_said q_talk : Nat} {m_thrown : Int32} {m_size : Int32} {m_start : Int32} {m_token : Int32} {m_faultAt : Int32} {m_allowed : Int32} {m_firstPair : Int32} {m_secondPair : Int32} {m_above : Int64} {m_below : Int64} {m_text : Nat → Int32} (C0 : gm_C p s m args meth c (dC, dI) [(cI, .int)] A gm_T RX11 cX11_next 2 none wsX11_next) {N : Nat} {out : Int32 × Int32 × Int32 × Int64}   : ∀ (n : Nat), ∀ (m_at : Int32) (m_value : Int64) (x1 : Int32) (H : Heap) (locs : List Loc) (ls : Array Slot), (gm_fix (fX11_next_b84_body N  m_size m_start m_token m_text) (fun _ _ _ => none) n) m_at m_value x1 = some out → gm_H (dC, dI) A s (wX11_next cI q q_text q_refused q_tongue q_fresh q_kept q_isKept q_said q_talk m_thrown m_size m_at m_start m_token m_value m_faultAt m_allowed m_firstPair m_secondPair m_above m_below m_text) H locs → lv_has ls 2 [(0, .ref q), (1, .int x1)] → W p l e rX11_next s m args below meth c H locs 0 0 (MQ below (gm_Q (dC, dI) [(cI, .int)] A none (wX11_next cI q q_text q_refused q_tongue q_fresh q_kept q_isKept q_said q_talk m_thrown m_size out.1 out.2.1 out.2.2.1 out.2.2.2 m_faultAt m_allowed m_firstPair m_secondPair m_above m_below m_text)) args s 0 0 A) (F0 m 84 ls []) := by
  obtain ⟨hx, hb, hml, hr, hown, hts, hA, hK, hX, hlocks⟩ := id C0
  intro n
  induction n with
  | zero =>
    intro m_at m_value x1 H locs ls h hH hl
    cases h
  | succ n hr84 =>
    intro m_at m_value x1 H locs ls h hH hl
    rw [gm_fix_s] at h
    unfold fX11_next_b84_body at h
    refine lv_aload_n hx hb dX11_next_84 rfl (lv_at hl 0 rfl) ?_
    obtain ⟨o16, ho16, h⟩ := gm_bind_e h
    refine gm_callV (As := []) (rest := []) (n := 0) (ci := 11) (q0 := 0) C0 hH (mX11_isLetter l dC dI cI q q_text q_refused q_tongue q_fresh q_kept q_isKept q_said q_talk m_thrown m_size m_at m_start m_token m_value m_faultAt m_allowed m_firstPair m_secondPair m_above m_below m_text    ho16) gX11_next_X11_isLetter rfl (by decide +kernel) ⟨rfl, rfl, Nat.le_of_ble_eq_true rfl, Nat.le_of_ble_eq_true rfl⟩ gm_T_ok (fun _ => trivial) [0, 1] rfl rfl rfl [0] rfl rfl rfl rfl hl.1 rfl (Nat.le_of_ble_eq_true rfl) dX11_next_85 ⟨Nat.zero_le _, Nat.zero_le _⟩ (fun H locs hH => ?_)
    have hH : gm_H (dC, dI) A s (wX11_next cI q q_text q_refused q_tongue q_fresh q_kept q_isKept q_said q_talk m_thrown m_size m_at m_start m_token m_value m_faultAt m_allowed m_firstPair m_secondPair m_above m_below m_text) H locs := hH
    refine lv_if_eq (tgt := 265) hx hb dX11_next_88 (by decide) (fun hc17 => ?_) (fun hc17 => ?_)
    · replace h := gm_pos hc17 h
      obtain rfl := Option.some.inj h
      exact gm_vret C0 hH dX11_next_265
    · replace h := gm_neg hc17 h
      refine lv_aload_n hx hb dX11_next_91 rfl (lv_at hl 0 rfl) ?_
      refine lv_iload_n hx hb dX11_next_92 rfl (lv_at hl 1 rfl) ?_
      refine lv_bipush (v := 7) hx hb dX11_next_93 (by decide) ?_
      refine lv_icmp_ge (tgt := 124) hx hb dX11_next_95 (by decide) (fun hc18 => ?_) (fun hc18 => ?_)
      · replace h := gm_pos hc18 h
        refine lv_ldc2 (own := RX11) (v := (-1)) hx hb hown (gm_at C0 9 rfl) dX11_next_124 ?_
        exact tX11_next_b127 C0 hr84 h hH (lv_sub hl [0, 1] rfl)
      · replace h := gm_neg hc18 h
        refine lv_ldc2 (own := RX11) (v := 27) hx hb hown (gm_at C0 7 rfl) dX11_next_98 ?_
        refine lv_aload_n hx hb dX11_next_101 rfl (lv_at hl 0 rfl) ?_
        refine gm_get (ci := 11) C0 hH inX11_next_X11 0 11 5 rfl rfl (by decide) rfl rfl dX11_next_102 ?_
        refine lv_lmul hx hb dX11_next_105 ?_
        refine lv_aload_n hx hb dX11_next_106 rfl (lv_at hl 0 rfl) ?_
        refine gm_get (ci := 11) C0 hH inX11_next_X11 0 6 3 rfl rfl (by decide) rfl rfl dX11_next_107 ?_
        refine lv_aload_n hx hb dX11_next_110 rfl (lv_at hl 0 rfl) ?_
        refine gm_get (ci := 11) C0 hH inX11_next_X11 0 8 1 rfl rfl (by decide) rfl rfl dX11_next_111 ?_
        obtain ⟨hi20, h⟩ := gm_chk_e h
        refine gm_iald C0 hH hi20 1 0 rfl rfl dX11_next_114 ?_
        refine lv_i2l hx hb dX11_next_115 rfl ?_
        refine lv_ladd hx hb dX11_next_116 ?_
        refine lv_ldc2 (own := RX11) (v := 96) hx hb hown (gm_at C0 8 rfl) dX11_next_117 ?_
        refine lv_lsub hx hb dX11_next_120 ?_
        refine lv_goto (tgt := 127) hx hb dX11_next_121 (by decide) ?_
        exact tX11_next_b127 C0 hr84 h hH (lv_sub hl [0, 1] rfl)
set_option maxRecDepth 100000 in
set_option maxHeartbeats 4000000 in
theorem tX11_next_b38 {p : Program} {l : Launch} {e : Env} {s : State} {m : MethodId} {args : Array Value} {below : List Frame} {meth : Method} {c : Code} {A : Nat → Prop} {dC : Nat → ClassId} {dI : Nat → Nat → Nat} {cI : ClassId} {q q_text q_refused q_tongue q_fresh q_kept q_isKept q_said q_talk : Nat} {m_thrown : Int32} {m_size : Int32} {m_at : Int32} {m_start : Int32} {m_token : Int32} {m_value : Int64} {m_faultAt : Int32} {m_allowed : Int32} {m_firstPair : Int32} {m_secondPair : Int32} {m_above : Int64} {m_below : Int64} {m_text : Nat → Int32} (C0 : gm_C p s m args meth c (dC, dI) [(cI, .int)] A gm_T RX11 cX11_next 2 none wsX11_next) {N : Nat} {out : Int32 × Int32 × Int32 × Int64}    {H : Heap} {locs : List Loc} {ls : Array Slot} (h : fX11_next_b38 N  m_size m_at m_start m_token m_value m_text = some out) (hH : gm_H (dC, dI) A s (wX11_next cI q q_text q_refused q_tongue q_fresh q_kept q_isKept q_said q_talk m_thrown m_size m_at m_start m_token m_value m_faultAt m_allowed m_firstPair m_secondPair m_above m_below m_text) H locs) (hl : lv_has ls 2 [(0, .ref q)]) : W p l e rX11_next s m args below meth c H locs 0 0 (MQ below (gm_Q (dC, dI) [(cI, .int)] A none (wX11_next cI q q_text q_refused q_tongue q_fresh q_kept q_isKept q_said q_talk m_thrown m_size out.1 out.2.1 out.2.2.1 out.2.2.2 m_faultAt m_allowed m_firstPair m_secondPair m_above m_below m_text)) args s 0 0 A) (F0 m 38 ls []) := by
  obtain ⟨hx, hb, hml, hr, hown, hts, hA, hK, hX, hlocks⟩ := id C0
  unfold fX11_next_b38 at h
  refine lv_aload_n hx hb dX11_next_38 rfl (lv_at hl 0 rfl) ?_
  refine lv_aload_n hx hb dX11_next_39 rfl (lv_at hl 0 rfl) ?_
  refine gm_get (ci := 11) C0 hH inX11_next_X11 0 8 1 rfl rfl (by decide) rfl rfl dX11_next_40 ?_
  refine gm_putf (ci := 11) C0 hH inX11_next_X11 tyX11_ok nmX11 0 9 4 rfl rfl (by decide) rfl rfl rfl rfl rfl (Nat.le_of_ble_eq_true rfl) dX11_next_43 (fun H locs hH => ?_)
  have hH : gm_H (dC, dI) A s (wX11_next cI q q_text q_refused q_tongue q_fresh q_kept q_isKept q_said q_talk m_thrown m_size m_at m_at m_token m_value m_faultAt m_allowed m_firstPair m_secondPair m_above m_below m_text) H locs := hH
  refine lv_aload_n hx hb dX11_next_46 rfl (lv_at hl 0 rfl) ?_
  refine lv_lconst (v := 0) hx hb dX11_next_47 (by decide) ?_
  refine gm_putf (ci := 11) C0 hH inX11_next_X11 tyX11_ok nmX11 0 11 5 rfl rfl (by decide) rfl rfl rfl rfl rfl (Nat.le_of_ble_eq_true rfl) dX11_next_48 (fun H locs hH => ?_)
  have hH : gm_H (dC, dI) A s (wX11_next cI q q_text q_refused q_tongue q_fresh q_kept q_isKept q_said q_talk m_thrown m_size m_at m_at m_token 0 m_faultAt m_allowed m_firstPair m_secondPair m_above m_below m_text) H locs := hH
  refine lv_iconst (v := 0) hx hb dX11_next_51 (by decide) ?_
  refine lv_istore_n (lv' := [(1, .int 0), (0, .ref q)]) hx hb dX11_next_52 rfl hl (by decide) rfl (fun ls hl => ?_)
  refine lv_aload_n hx hb dX11_next_53 rfl (lv_at hl 1 rfl) ?_
  refine gm_get (ci := 11) C0 hH inX11_next_X11 0 8 1 rfl rfl (by decide) rfl rfl dX11_next_54 ?_
  refine lv_aload_n hx hb dX11_next_57 rfl (lv_at hl 1 rfl) ?_
  refine gm_get (ci := 11) C0 hH inX11_next_X11 0 7 2 rfl rfl (by decide) rfl rfl dX11_next_58 ?_
  refine lv_icmp_ne (tgt := 72) hx hb dX11_next_61 (by decide) (fun hc2 => ?_) (fun hc2 => ?_)
  · replace h := gm_neg hc2 h
    refine lv_aload_n hx hb dX11_next_72 rfl (lv_at hl 1 rfl) ?_
    obtain ⟨o3, ho3, h⟩ := gm_bind_e h
    refine gm_callV (As := []) (rest := []) (n := 0) (ci := 11) (q0 := 0) C0 hH (mX11_isLetter l dC dI cI q q_text q_refused q_tongue q_fresh q_kept q_isKept q_said q_talk m_thrown m_size m_at m_at m_token 0 m_faultAt m_allowed m_firstPair m_secondPair m_above m_below m_text    ho3) gX11_next_X11_isLetter rfl (by decide +kernel) ⟨rfl, rfl, Nat.le_of_ble_eq_true rfl, Nat.le_of_ble_eq_true rfl⟩ gm_T_ok (fun _ => trivial) [0, 1] rfl rfl rfl [0] rfl rfl rfl rfl hl.1 rfl (Nat.le_of_ble_eq_true rfl) dX11_next_73 ⟨Nat.zero_le _, Nat.zero_le _⟩ (fun H locs hH => ?_)
    have hH : gm_H (dC, dI) A s (wX11_next cI q q_text q_refused q_tongue q_fresh q_kept q_isKept q_said q_talk m_thrown m_size m_at m_at m_token 0 m_faultAt m_allowed m_firstPair m_secondPair m_above m_below m_text) H locs := hH
    refine lv_if_eq (tgt := 146) hx hb dX11_next_76 (by decide) (fun hc4 => ?_) (fun hc4 => ?_)
    · replace h := gm_pos hc4 h
      refine lv_aload_n hx hb dX11_next_146 rfl (lv_at hl 1 rfl) ?_
      obtain ⟨o5, ho5, h⟩ := gm_bind_e h
      refine gm_callV (As := []) (rest := []) (n := 0) (ci := 11) (q0 := 0) C0 hH (mX11_isFigure l dC dI cI q q_text q_refused q_tongue q_fresh q_kept q_isKept q_said q_talk m_thrown m_size m_at m_at m_token 0 m_faultAt m_allowed m_firstPair m_secondPair m_above m_below m_text    ho5) gX11_next_X11_isFigure rfl (by decide +kernel) ⟨rfl, rfl, Nat.le_of_ble_eq_true rfl, Nat.le_of_ble_eq_true rfl⟩ gm_T_ok (fun _ => trivial) [0, 1] rfl rfl rfl [0] rfl rfl rfl rfl hl.1 rfl (Nat.le_of_ble_eq_true rfl) dX11_next_147 ⟨Nat.zero_le _, Nat.zero_le _⟩ (fun H locs hH => ?_)
      have hH : gm_H (dC, dI) A s (wX11_next cI q q_text q_refused q_tongue q_fresh q_kept q_isKept q_said q_talk m_thrown m_size m_at m_at m_token 0 m_faultAt m_allowed m_firstPair m_secondPair m_above m_below m_text) H locs := hH
      refine lv_if_eq (tgt := 232) hx hb dX11_next_150 (by decide) (fun hc6 => ?_) (fun hc6 => ?_)
      · replace h := gm_pos hc6 h
        refine lv_aload_n hx hb dX11_next_232 rfl (lv_at hl 1 rfl) ?_
        refine lv_aload_n hx hb dX11_next_233 rfl (lv_at hl 1 rfl) ?_
        refine gm_get (ci := 11) C0 hH inX11_next_X11 0 6 3 rfl rfl (by decide) rfl rfl dX11_next_234 ?_
        refine lv_aload_n hx hb dX11_next_237 rfl (lv_at hl 1 rfl) ?_
        refine gm_get (ci := 11) C0 hH inX11_next_X11 0 8 1 rfl rfl (by decide) rfl rfl dX11_next_238 ?_
        obtain ⟨hi7, h⟩ := gm_chk_e h
        refine gm_iald C0 hH hi7 1 0 rfl rfl dX11_next_241 ?_
        refine lv_bipush (v := 59) hx hb dX11_next_242 (by decide) ?_
        refine lv_icmp_ne (tgt := 251) hx hb dX11_next_244 (by decide) (fun hc8 => ?_) (fun hc8 => ?_)
        · replace h := gm_neg hc8 h
          refine lv_iconst (v := 0) hx hb dX11_next_251 (by decide) ?_
          exact tX11_next_b252 C0  h hH (lv_sub hl [1] rfl)
        · replace h := gm_pos hc8 h
          refine lv_iconst (v := 4) hx hb dX11_next_247 (by decide) ?_
          refine lv_goto (tgt := 252) hx hb dX11_next_248 (by decide) ?_
          exact tX11_next_b252 C0  h hH (lv_sub hl [1] rfl)
      · replace h := gm_neg hc6 h
        unfold fX11_next_b153 at h
        exact tX11_next_b153 C0  _ _ _ _ _ _ _ h hH (lv_sub hl [1, 0] rfl)
    · replace h := gm_neg hc4 h
      refine lv_aload_n hx hb dX11_next_79 rfl (lv_at hl 1 rfl) ?_
      refine lv_iconst (v := 2) hx hb dX11_next_80 (by decide) ?_
      refine gm_putf (ci := 11) C0 hH inX11_next_X11 tyX11_ok nmX11 0 10 6 rfl rfl (by decide) rfl rfl rfl rfl rfl (Nat.le_of_ble_eq_true rfl) dX11_next_81 (fun H locs hH => ?_)
      have hH : gm_H (dC, dI) A s (wX11_next cI q q_text q_refused q_tongue q_fresh q_kept q_isKept q_said q_talk m_thrown m_size m_at m_at 2 0 m_faultAt m_allowed m_firstPair m_secondPair m_above m_below m_text) H locs := hH
      unfold fX11_next_b84 at h
      exact tX11_next_b84 C0  _ _ _ _ _ _ _ h hH (lv_sub hl [1, 0] rfl)
  · replace h := gm_pos hc2 h
    refine lv_aload_n hx hb dX11_next_64 rfl (lv_at hl 1 rfl) ?_
    refine lv_iconst (v := 1) hx hb dX11_next_65 (by decide) ?_
    refine gm_putf (ci := 11) C0 hH inX11_next_X11 tyX11_ok nmX11 0 10 6 rfl rfl (by decide) rfl rfl rfl rfl rfl (Nat.le_of_ble_eq_true rfl) dX11_next_66 (fun H locs hH => ?_)
    have hH : gm_H (dC, dI) A s (wX11_next cI q q_text q_refused q_tongue q_fresh q_kept q_isKept q_said q_talk m_thrown m_size m_at m_at 1 0 m_faultAt m_allowed m_firstPair m_secondPair m_above m_below m_text) H locs := hH
    refine lv_goto (tgt := 265) hx hb dX11_next_69 (by decide) ?_
    obtain rfl := Option.some.inj h
    exact gm_vret C0 hH dX11_next_265
set_option maxRecDepth 100000 in
set_option maxHeartbeats 4000000 in
theorem tX11_next_b0 {p : Program} {l : Launch} {e : Env} {s : State} {m : MethodId} {args : Array Value} {below : List Frame} {meth : Method} {c : Code} {A : Nat → Prop} {dC : Nat → ClassId} {dI : Nat → Nat → Nat} {cI : ClassId} {q q_text q_refused q_tongue q_fresh q_kept q_isKept q_said q_talk : Nat} {m_thrown : Int32} {m_size : Int32} {m_start : Int32} {m_token : Int32} {m_value : Int64} {m_faultAt : Int32} {m_allowed : Int32} {m_firstPair : Int32} {m_secondPair : Int32} {m_above : Int64} {m_below : Int64} {m_text : Nat → Int32} (C0 : gm_C p s m args meth c (dC, dI) [(cI, .int)] A gm_T RX11 cX11_next 2 none wsX11_next) {N : Nat} {out : Int32 × Int32 × Int32 × Int64}   : ∀ (n : Nat), ∀ (m_at : Int32) (H : Heap) (locs : List Loc) (ls : Array Slot), (gm_fix (fX11_next_b0_body N  m_size m_start m_token m_value m_text) (fun _ => none) n) m_at = some out → gm_H (dC, dI) A s (wX11_next cI q q_text q_refused q_tongue q_fresh q_kept q_isKept q_said q_talk m_thrown m_size m_at m_start m_token m_value m_faultAt m_allowed m_firstPair m_secondPair m_above m_below m_text) H locs → lv_has ls 2 [(0, .ref q)] → W p l e rX11_next s m args below meth c H locs 0 0 (MQ below (gm_Q (dC, dI) [(cI, .int)] A none (wX11_next cI q q_text q_refused q_tongue q_fresh q_kept q_isKept q_said q_talk m_thrown m_size out.1 out.2.1 out.2.2.1 out.2.2.2 m_faultAt m_allowed m_firstPair m_secondPair m_above m_below m_text)) args s 0 0 A) (F0 m 0 ls []) := by
  obtain ⟨hx, hb, hml, hr, hown, hts, hA, hK, hX, hlocks⟩ := id C0
  intro n
  induction n with
  | zero =>
    intro m_at H locs ls h hH hl
    cases h
  | succ n hr0 =>
    intro m_at H locs ls h hH hl
    rw [gm_fix_s] at h
    unfold fX11_next_b0_body at h
    refine lv_aload_n hx hb dX11_next_0 rfl (lv_at hl 0 rfl) ?_
    refine gm_get (ci := 11) C0 hH inX11_next_X11 0 8 1 rfl rfl (by decide) rfl rfl dX11_next_1 ?_
    refine lv_aload_n hx hb dX11_next_4 rfl (lv_at hl 0 rfl) ?_
    refine gm_get (ci := 11) C0 hH inX11_next_X11 0 7 2 rfl rfl (by decide) rfl rfl dX11_next_5 ?_
    refine lv_icmp_ge (tgt := 38) hx hb dX11_next_8 (by decide) (fun hc1 => ?_) (fun hc1 => ?_)
    · replace h := gm_pos hc1 h
      exact tX11_next_b38 C0  h hH (lv_sub hl [0] rfl)
    · replace h := gm_neg hc1 h
      refine lv_aload_n hx hb dX11_next_11 rfl (lv_at hl 0 rfl) ?_
      refine gm_get (ci := 11) C0 hH inX11_next_X11 0 6 3 rfl rfl (by decide) rfl rfl dX11_next_12 ?_
      refine lv_aload_n hx hb dX11_next_15 rfl (lv_at hl 0 rfl) ?_
      refine gm_get (ci := 11) C0 hH inX11_next_X11 0 8 1 rfl rfl (by decide) rfl rfl dX11_next_16 ?_
      obtain ⟨hi21, h⟩ := gm_chk_e h
      refine gm_iald C0 hH hi21 1 0 rfl rfl dX11_next_19 ?_
      refine lv_bipush (v := 32) hx hb dX11_next_20 (by decide) ?_
      refine lv_icmp_ne (tgt := 38) hx hb dX11_next_22 (by decide) (fun hc22 => ?_) (fun hc22 => ?_)
      · replace h := gm_neg hc22 h
        exact tX11_next_b38 C0  h hH (lv_sub hl [0] rfl)
      · replace h := gm_pos hc22 h
        refine lv_aload_n hx hb dX11_next_25 rfl (lv_at hl 0 rfl) ?_
        refine lv_dup hx hb dX11_next_26 rfl ?_
        refine gm_get (ci := 11) C0 hH inX11_next_X11 0 8 1 rfl rfl (by decide) rfl rfl dX11_next_27 ?_
        refine lv_iconst (v := 1) hx hb dX11_next_30 (by decide) ?_
        refine lv_iadd hx hb dX11_next_31 ?_
        refine lv_topi (fun v23 ev23 => ?_)
        replace h := gm_let_e ev23 h
        refine gm_putf (ci := 11) C0 hH inX11_next_X11 tyX11_ok nmX11 0 8 1 rfl rfl (by decide) rfl rfl rfl rfl rfl (Nat.le_of_ble_eq_true rfl) dX11_next_32 (fun H locs hH => ?_)
        have hH : gm_H (dC, dI) A s (wX11_next cI q q_text q_refused q_tongue q_fresh q_kept q_isKept q_said q_talk m_thrown m_size v23 m_start m_token m_value m_faultAt m_allowed m_firstPair m_secondPair m_above m_below m_text) H locs := hH
        refine lv_goto (tgt := 0) hx hb dX11_next_35 (by decide) ?_
        exact hr0 _ _ _ _ h hH (lv_sub hl [0] rfl)
set_option maxRecDepth 100000 in
set_option maxHeartbeats 4000000 in
theorem mX11_next (l : Launch) (dC : Nat → ClassId) (dI : Nat → Nat → Nat) (cI : ClassId) (q q_text q_refused q_tongue q_fresh q_kept q_isKept q_said q_talk : Nat) (m_thrown : Int32) (m_size : Int32) (m_at : Int32) (m_start : Int32) (m_token : Int32) (m_value : Int64) (m_faultAt : Int32) (m_allowed : Int32) (m_firstPair : Int32) (m_secondPair : Int32) (m_above : Int64) (m_below : Int64) (m_text : Nat → Int32)   {N : Nat} {out : Int32 × Int32 × Int32 × Int64} (h : fX11_next N m_size m_at m_start m_token m_value m_text = some out) : gm_Met l yX11_next wsX11_next rX11_next (dC, dI) [(cI, .int)] gm_T [.ref q] (wX11_next cI q q_text q_refused q_tongue q_fresh q_kept q_isKept q_said q_talk m_thrown m_size m_at m_start m_token m_value m_faultAt m_allowed m_firstPair m_secondPair m_above m_below m_text) none (wX11_next cI q q_text q_refused q_tongue q_fresh q_kept q_isKept q_said q_talk m_thrown m_size out.1 out.2.1 out.2.2.1 out.2.2.2 m_faultAt m_allowed m_firstPair m_secondPair m_above m_below m_text) := by
  refine gm_ofW (cc := cX11_next) (maxL := 2) (ret := none) (by decide +kernel) rfl (Nat.le_of_ble_eq_true rfl) ?_
  intro p e s m below meth c A C0 hH ls hl
  generalize ([.ref q] : List Value).toArray = args at C0 ⊢
  have hl : lv_has ls 2 [(0, .ref q)] := hl
  generalize s.heap = H at hH ⊢
  generalize ([] : List Loc) = locs at hH ⊢
  obtain ⟨hx, hb, hml, hr, hown, hts, hA, hK, hX, hlocks⟩ := id C0
  unfold fX11_next at h
  unfold fX11_next_b0 at h
  exact tX11_next_b0 C0  _ _ _ _ _ h hH (lv_sub hl [0] rfl)

/-! X11_faultHere -/
abbrev wX11_faultHere (q q_refused q_tongue q_fresh q_kept q_isKept q_text q_said q_talk : Nat) (m_thrown : Int32) (m_size : Int32) (m_at : Int32) (m_start : Int32) (m_token : Int32) (m_value : Int64) (m_faultAt : Int32) (m_allowed : Int32) (m_firstPair : Int32) (m_secondPair : Int32) (m_above : Int64) (m_below : Int64) : va_W := [(q, .inr (11, [.int m_thrown, .ref q_refused, .ref q_tongue, .ref q_fresh, .ref q_kept, .ref q_isKept, .ref q_text, .int m_size, .int m_at, .int m_start, .int m_token, .long m_value, .int m_faultAt, .ref q_said, .ref q_talk, .int m_allowed, .int m_firstPair, .int m_secondPair, .long m_above, .long m_below]))]
abbrev rX11_faultHere : Room := { frames := 0, cells := 0, slots := 0, locals := 0 }
def fX11_faultHere (N : Nat) (m_size : Int32) (m_start : Int32) (m_token : Int32) (m_faultAt : Int32)  : Option (Int32) := (if m_faultAt = (-1) then (if m_token = 1 then some (m_size) else some (m_start)) else some (m_faultAt))
set_option maxRecDepth 20000 in
theorem inX11_faultHere_X11 : ∀ w ∈ u_ws RX11 TX11 20, w ∈ wsX11_faultHere := fun w h => by
  obtain ⟨k, hk, rfl⟩ := List.mem_map.mp h
  have hk2 := List.mem_range.mp hk
  exact List.mem_of_getElem? (i := 5 + k) (by rcases (show k = 0 ∨ k = 1 ∨ k = 2 ∨ k = 3 ∨ k = 4 ∨ k = 5 ∨ k = 6 ∨ k = 7 ∨ k = 8 ∨ k = 9 ∨ k = 10 ∨ k = 11 ∨ k = 12 ∨ k = 13 ∨ k = 14 ∨ k = 15 ∨ k = 16 ∨ k = 17 ∨ k = 18 ∨ k = 19 by omega) with rfl | rfl | rfl | rfl | rfl | rfl | rfl | rfl | rfl | rfl | rfl | rfl | rfl | rfl | rfl | rfl | rfl | rfl | rfl | rfl <;> rfl)
set_option maxRecDepth 100000 in
set_option maxHeartbeats 4000000 in
theorem mX11_faultHere (l : Launch) (dC : Nat → ClassId) (dI : Nat → Nat → Nat) (q q_refused q_tongue q_fresh q_kept q_isKept q_text q_said q_talk : Nat) (m_thrown : Int32) (m_size : Int32) (m_at : Int32) (m_start : Int32) (m_token : Int32) (m_value : Int64) (m_faultAt : Int32) (m_allowed : Int32) (m_firstPair : Int32) (m_secondPair : Int32) (m_above : Int64) (m_below : Int64)   {N : Nat} {out : Int32} (h : fX11_faultHere N m_size m_start m_token m_faultAt = some out) : gm_Met l yX11_faultHere wsX11_faultHere rX11_faultHere (dC, dI) [] gm_T [.ref q] (wX11_faultHere  q q_refused q_tongue q_fresh q_kept q_isKept q_text q_said q_talk m_thrown m_size m_at m_start m_token m_value m_faultAt m_allowed m_firstPair m_secondPair m_above m_below) none (wX11_faultHere  q q_refused q_tongue q_fresh q_kept q_isKept q_text q_said q_talk m_thrown m_size m_at m_start m_token m_value out m_allowed m_firstPair m_secondPair m_above m_below) := by
  refine gm_ofW (cc := cX11_faultHere) (maxL := 1) (ret := none) (by decide +kernel) rfl (Nat.le_of_ble_eq_true rfl) ?_
  intro p e s m below meth c A C0 hH ls hl
  generalize ([.ref q] : List Value).toArray = args at C0 ⊢
  have hl : lv_has ls 1 [(0, .ref q)] := hl
  generalize s.heap = H at hH ⊢
  generalize ([] : List Loc) = locs at hH ⊢
  obtain ⟨hx, hb, hml, hr, hown, hts, hA, hK, hX, hlocks⟩ := id C0
  unfold fX11_faultHere at h
  refine lv_aload_n hx hb dX11_faultHere_0 rfl (lv_at hl 0 rfl) ?_
  refine gm_get (ci := 11) C0 hH inX11_faultHere_X11 0 12 1 rfl rfl (by decide) rfl rfl dX11_faultHere_1 ?_
  refine lv_iconst (v := (-1)) hx hb dX11_faultHere_4 (by decide) ?_
  refine lv_icmp_ne (tgt := 31) hx hb dX11_faultHere_5 (by decide) (fun hc1 => ?_) (fun hc1 => ?_)
  · replace h := gm_neg hc1 h
    obtain rfl := Option.some.inj h
    exact gm_vret C0 hH dX11_faultHere_31
  · replace h := gm_pos hc1 h
    refine lv_aload_n hx hb dX11_faultHere_8 rfl (lv_at hl 0 rfl) ?_
    refine lv_aload_n hx hb dX11_faultHere_9 rfl (lv_at hl 0 rfl) ?_
    refine gm_get (ci := 11) C0 hH inX11_faultHere_X11 0 10 2 rfl rfl (by decide) rfl rfl dX11_faultHere_10 ?_
    refine lv_iconst (v := 1) hx hb dX11_faultHere_13 (by decide) ?_
    refine lv_icmp_ne (tgt := 24) hx hb dX11_faultHere_14 (by decide) (fun hc2 => ?_) (fun hc2 => ?_)
    · replace h := gm_neg hc2 h
      refine lv_aload_n hx hb dX11_faultHere_24 rfl (lv_at hl 0 rfl) ?_
      refine gm_get (ci := 11) C0 hH inX11_faultHere_X11 0 9 4 rfl rfl (by decide) rfl rfl dX11_faultHere_25 ?_
      refine gm_putf (ci := 11) C0 hH inX11_faultHere_X11 tyX11_ok nmX11 0 12 1 rfl rfl (by decide) rfl rfl rfl rfl rfl (Nat.le_of_ble_eq_true rfl) dX11_faultHere_28 (fun H locs hH => ?_)
      have hH : gm_H (dC, dI) A s (wX11_faultHere  q q_refused q_tongue q_fresh q_kept q_isKept q_text q_said q_talk m_thrown m_size m_at m_start m_token m_value m_start m_allowed m_firstPair m_secondPair m_above m_below) H locs := hH
      obtain rfl := Option.some.inj h
      exact gm_vret C0 hH dX11_faultHere_31
    · replace h := gm_pos hc2 h
      refine lv_aload_n hx hb dX11_faultHere_17 rfl (lv_at hl 0 rfl) ?_
      refine gm_get (ci := 11) C0 hH inX11_faultHere_X11 0 7 3 rfl rfl (by decide) rfl rfl dX11_faultHere_18 ?_
      refine lv_goto (tgt := 28) hx hb dX11_faultHere_21 (by decide) ?_
      refine gm_putf (ci := 11) C0 hH inX11_faultHere_X11 tyX11_ok nmX11 0 12 1 rfl rfl (by decide) rfl rfl rfl rfl rfl (Nat.le_of_ble_eq_true rfl) dX11_faultHere_28 (fun H locs hH => ?_)
      have hH : gm_H (dC, dI) A s (wX11_faultHere  q q_refused q_tongue q_fresh q_kept q_isKept q_text q_said q_talk m_thrown m_size m_at m_start m_token m_value m_size m_allowed m_firstPair m_secondPair m_above m_below) H locs := hH
      obtain rfl := Option.some.inj h
      exact gm_vret C0 hH dX11_faultHere_31

/-! X11_number -/
abbrev wX11_number (cI : ClassId) (q q_text q_refused q_tongue q_fresh q_kept q_isKept q_said q_talk : Nat) (m_thrown : Int32) (m_size : Int32) (m_at : Int32) (m_start : Int32) (m_token : Int32) (m_value : Int64) (m_faultAt : Int32) (m_allowed : Int32) (m_firstPair : Int32) (m_secondPair : Int32) (m_above : Int64) (m_below : Int64) (m_text : Nat → Int32) : va_W := [(q, .inr (11, [.int m_thrown, .ref q_refused, .ref q_tongue, .ref q_fresh, .ref q_kept, .ref q_isKept, .ref q_text, .int m_size, .int m_at, .int m_start, .int m_token, .long m_value, .int m_faultAt, .ref q_said, .ref q_talk, .int m_allowed, .int m_firstPair, .int m_secondPair, .long m_above, .long m_below])), (q_text, .inl (cI, 150, .inl m_text))]
abbrev rX11_number : Room := { frames := 3, cells := 0, slots := 0, locals := 66 }
def fX11_number_b36 (N : Nat)  (m_size : Int32) (m_at : Int32) (m_start : Int32) (m_token : Int32) (m_value : Int64) (m_faultAt : Int32) : Option (Int32 × Int32 × Int32 × Int32 × Int64 × Int32) := gm_bind (fX11_faultHere N m_size m_start m_token m_faultAt) (fun o2 => some (0, m_at, m_start, m_token, m_value, o2))
def fX11_number (N : Nat) (m_size : Int32) (m_at : Int32) (m_start : Int32) (m_token : Int32) (m_value : Int64) (m_faultAt : Int32) (m_text : Nat → Int32) (x1 : Int32) (x2 : Int32) : Option (Int32 × Int32 × Int32 × Int32 × Int64 × Int32) := (if m_faultAt = (-1) then (if m_token = 3 then (if 0 < (lg_cmp m_value (Int32.toInt64 x1)) then (fX11_number_b36 N  m_size m_at m_start m_token m_value m_faultAt) else (if (lg_cmp m_value (Int32.toInt64 x2)) = 0 then (fX11_number_b36 N  m_size m_at m_start m_token m_value m_faultAt) else gm_let ((Int64.toInt32 m_value) : Int32) (fun (v6 : Int32) => gm_bind (fX11_next N m_size m_at m_start m_token m_value m_text) (fun o7 => some (v6, o7.1, o7.2.1, o7.2.2.1, o7.2.2.2, m_faultAt))))) else (fX11_number_b36 N  m_size m_at m_start m_token m_value m_faultAt)) else (fX11_number_b36 N  m_size m_at m_start m_token m_value m_faultAt))
set_option maxRecDepth 20000 in
theorem inX11_number_X11 : ∀ w ∈ u_ws RX11 TX11 20, w ∈ wsX11_number := fun w h => by
  obtain ⟨k, hk, rfl⟩ := List.mem_map.mp h
  have hk2 := List.mem_range.mp hk
  exact List.mem_of_getElem? (i := 36 + k) (by rcases (show k = 0 ∨ k = 1 ∨ k = 2 ∨ k = 3 ∨ k = 4 ∨ k = 5 ∨ k = 6 ∨ k = 7 ∨ k = 8 ∨ k = 9 ∨ k = 10 ∨ k = 11 ∨ k = 12 ∨ k = 13 ∨ k = 14 ∨ k = 15 ∨ k = 16 ∨ k = 17 ∨ k = 18 ∨ k = 19 by omega) with rfl | rfl | rfl | rfl | rfl | rfl | rfl | rfl | rfl | rfl | rfl | rfl | rfl | rfl | rfl | rfl | rfl | rfl | rfl | rfl <;> rfl)
set_option maxRecDepth 100000 in
set_option maxHeartbeats 4000000 in
theorem tX11_number_b36 {p : Program} {l : Launch} {e : Env} {s : State} {m : MethodId} {args : Array Value} {below : List Frame} {meth : Method} {c : Code} {A : Nat → Prop} {dC : Nat → ClassId} {dI : Nat → Nat → Nat} {cI : ClassId} {q q_text q_refused q_tongue q_fresh q_kept q_isKept q_said q_talk : Nat} {m_thrown : Int32} {m_size : Int32} {m_at : Int32} {m_start : Int32} {m_token : Int32} {m_value : Int64} {m_faultAt : Int32} {m_allowed : Int32} {m_firstPair : Int32} {m_secondPair : Int32} {m_above : Int64} {m_below : Int64} {m_text : Nat → Int32} (C0 : gm_C p s m args meth c (dC, dI) [(cI, .int)] A gm_T RX11 cX11_number 4 (some .int) wsX11_number) {N : Nat} {out : Int32 × Int32 × Int32 × Int32 × Int64 × Int32}    {H : Heap} {locs : List Loc} {ls : Array Slot} (h : fX11_number_b36 N  m_size m_at m_start m_token m_value m_faultAt = some out) (hH : gm_H (dC, dI) A s (wX11_number cI q q_text q_refused q_tongue q_fresh q_kept q_isKept q_said q_talk m_thrown m_size m_at m_start m_token m_value m_faultAt m_allowed m_firstPair m_secondPair m_above m_below m_text) H locs) (hl : lv_has ls 4 [(0, .ref q)]) : W p l e rX11_number s m args below meth c H locs 0 0 (MQ below (gm_Q (dC, dI) [(cI, .int)] A (some (.int out.1)) (wX11_number cI q q_text q_refused q_tongue q_fresh q_kept q_isKept q_said q_talk m_thrown m_size out.2.1 out.2.2.1 out.2.2.2.1 out.2.2.2.2.1 out.2.2.2.2.2 m_allowed m_firstPair m_secondPair m_above m_below m_text)) args s 0 0 A) (F0 m 36 ls []) := by
  obtain ⟨hx, hb, hml, hr, hown, hts, hA, hK, hX, hlocks⟩ := id C0
  unfold fX11_number_b36 at h
  refine lv_aload_n hx hb dX11_number_36 rfl (lv_at hl 0 rfl) ?_
  obtain ⟨o2, ho2, h⟩ := gm_bind_e h
  refine gm_callV (As := []) (rest := []) (n := 0) (ci := 11) (q0 := 0) C0 hH (mX11_faultHere l dC dI  q q_refused q_tongue q_fresh q_kept q_isKept q_text q_said q_talk m_thrown m_size m_at m_start m_token m_value m_faultAt m_allowed m_firstPair m_secondPair m_above m_below    ho2) gX11_number_X11_faultHere rfl (by decide +kernel) ⟨rfl, rfl, Nat.le_of_ble_eq_true rfl, Nat.le_of_ble_eq_true rfl⟩ gm_T_ok (fun _ => trivial) [0] rfl rfl rfl [] rfl rfl rfl rfl hl.1 rfl (Nat.le_of_ble_eq_true rfl) dX11_number_37 ⟨Nat.zero_le _, Nat.zero_le _⟩ (fun H locs hH => ?_)
  have hH : gm_H (dC, dI) A s (wX11_number cI q q_text q_refused q_tongue q_fresh q_kept q_isKept q_said q_talk m_thrown m_size m_at m_start m_token m_value o2 m_allowed m_firstPair m_secondPair m_above m_below m_text) H locs := hH
  refine lv_iconst (v := 0) hx hb dX11_number_40 (by decide) ?_
  obtain rfl := Option.some.inj h
  exact gm_iret C0 hH dX11_number_41
set_option maxRecDepth 100000 in
set_option maxHeartbeats 4000000 in
theorem mX11_number (l : Launch) (dC : Nat → ClassId) (dI : Nat → Nat → Nat) (cI : ClassId) (q q_text q_refused q_tongue q_fresh q_kept q_isKept q_said q_talk : Nat) (m_thrown : Int32) (m_size : Int32) (m_at : Int32) (m_start : Int32) (m_token : Int32) (m_value : Int64) (m_faultAt : Int32) (m_allowed : Int32) (m_firstPair : Int32) (m_secondPair : Int32) (m_above : Int64) (m_below : Int64) (m_text : Nat → Int32) (x1 : Int32) (x2 : Int32)  {N : Nat} {out : Int32 × Int32 × Int32 × Int32 × Int64 × Int32} (h : fX11_number N m_size m_at m_start m_token m_value m_faultAt m_text x1 x2 = some out) : gm_Met l yX11_number wsX11_number rX11_number (dC, dI) [(cI, .int)] gm_T [.ref q, .int x1, .int x2] (wX11_number cI q q_text q_refused q_tongue q_fresh q_kept q_isKept q_said q_talk m_thrown m_size m_at m_start m_token m_value m_faultAt m_allowed m_firstPair m_secondPair m_above m_below m_text) (some (.int out.1)) (wX11_number cI q q_text q_refused q_tongue q_fresh q_kept q_isKept q_said q_talk m_thrown m_size out.2.1 out.2.2.1 out.2.2.2.1 out.2.2.2.2.1 out.2.2.2.2.2 m_allowed m_firstPair m_secondPair m_above m_below m_text) := by
  refine gm_ofW (cc := cX11_number) (maxL := 4) (ret := (some .int)) (by decide +kernel) rfl (Nat.le_of_ble_eq_true rfl) ?_
  intro p e s m below meth c A C0 hH ls hl
  generalize ([.ref q, .int x1, .int x2] : List Value).toArray = args at C0 ⊢
  have hl : lv_has ls 4 [(0, .ref q), (1, .int x1), (2, .int x2)] := hl
  generalize s.heap = H at hH ⊢
  generalize ([] : List Loc) = locs at hH ⊢
  obtain ⟨hx, hb, hml, hr, hown, hts, hA, hK, hX, hlocks⟩ := id C0
  unfold fX11_number at h
  refine lv_aload_n hx hb dX11_number_0 rfl (lv_at hl 0 rfl) ?_
  refine gm_get (ci := 11) C0 hH inX11_number_X11 0 12 1 rfl rfl (by decide) rfl rfl dX11_number_1 ?_
  refine lv_iconst (v := (-1)) hx hb dX11_number_4 (by decide) ?_
  refine lv_icmp_ne (tgt := 36) hx hb dX11_number_5 (by decide) (fun hc1 => ?_) (fun hc1 => ?_)
  · replace h := gm_neg hc1 h
    exact tX11_number_b36 C0  h hH (lv_sub hl [0] rfl)
  · replace h := gm_pos hc1 h
    refine lv_aload_n hx hb dX11_number_8 rfl (lv_at hl 0 rfl) ?_
    refine gm_get (ci := 11) C0 hH inX11_number_X11 0 10 2 rfl rfl (by decide) rfl rfl dX11_number_9 ?_
    refine lv_iconst (v := 3) hx hb dX11_number_12 (by decide) ?_
    refine lv_icmp_ne (tgt := 36) hx hb dX11_number_13 (by decide) (fun hc3 => ?_) (fun hc3 => ?_)
    · replace h := gm_neg hc3 h
      exact tX11_number_b36 C0  h hH (lv_sub hl [0] rfl)
    · replace h := gm_pos hc3 h
      refine lv_aload_n hx hb dX11_number_16 rfl (lv_at hl 0 rfl) ?_
      refine gm_get (ci := 11) C0 hH inX11_number_X11 0 11 3 rfl rfl (by decide) rfl rfl dX11_number_17 ?_
      refine lv_iload_n hx hb dX11_number_20 rfl (lv_at hl 1 rfl) ?_
      refine lv_i2l hx hb dX11_number_21 rfl ?_
      refine W.lcmp hx hb dX11_number_22 ?_
      refine lv_if_gt (tgt := 36) hx hb dX11_number_23 (by decide) (fun hc4 => ?_) (fun hc4 => ?_)
      · replace h := gm_pos hc4 h
        exact tX11_number_b36 C0  h hH (lv_sub hl [0] rfl)
      · replace h := gm_neg hc4 h
        refine lv_aload_n hx hb dX11_number_26 rfl (lv_at hl 0 rfl) ?_
        refine gm_get (ci := 11) C0 hH inX11_number_X11 0 11 3 rfl rfl (by decide) rfl rfl dX11_number_27 ?_
        refine lv_iload_n hx hb dX11_number_30 rfl (lv_at hl 2 rfl) ?_
        refine lv_i2l hx hb dX11_number_31 rfl ?_
        refine W.lcmp hx hb dX11_number_32 ?_
        refine lv_if_ne (tgt := 42) hx hb dX11_number_33 (by decide) (fun hc5 => ?_) (fun hc5 => ?_)
        · replace h := gm_neg hc5 h
          refine lv_aload_n hx hb dX11_number_42 rfl (lv_at hl 0 rfl) ?_
          refine gm_get (ci := 11) C0 hH inX11_number_X11 0 11 3 rfl rfl (by decide) rfl rfl dX11_number_43 ?_
          refine lv_l2i hx hb dX11_number_46 rfl ?_
          refine lv_topi (fun v6 ev6 => ?_)
          replace h := gm_let_e ev6 h
          refine lv_istore_n (lv' := [(3, .int v6), (0, .ref q), (1, .int x1), (2, .int x2)]) hx hb dX11_number_47 rfl hl (by decide) rfl (fun ls hl => ?_)
          refine lv_aload_n hx hb dX11_number_48 rfl (lv_at hl 1 rfl) ?_
          obtain ⟨o7, ho7, h⟩ := gm_bind_e h
          refine gm_callV (As := []) (rest := []) (n := 0) (ci := 11) (q0 := 0) C0 hH (mX11_next l dC dI cI q q_text q_refused q_tongue q_fresh q_kept q_isKept q_said q_talk m_thrown m_size m_at m_start m_token m_value m_faultAt m_allowed m_firstPair m_secondPair m_above m_below m_text    ho7) gX11_number_X11_next rfl (by decide +kernel) ⟨rfl, rfl, Nat.le_of_ble_eq_true rfl, Nat.le_of_ble_eq_true rfl⟩ gm_T_ok (fun _ => trivial) [0, 1] rfl rfl rfl [0] rfl rfl rfl rfl hl.1 rfl (Nat.le_of_ble_eq_true rfl) dX11_number_49 ⟨Nat.zero_le _, Nat.zero_le _⟩ (fun H locs hH => ?_)
          have hH : gm_H (dC, dI) A s (wX11_number cI q q_text q_refused q_tongue q_fresh q_kept q_isKept q_said q_talk m_thrown m_size o7.1 o7.2.1 o7.2.2.1 o7.2.2.2 m_faultAt m_allowed m_firstPair m_secondPair m_above m_below m_text) H locs := hH
          refine lv_iload_n hx hb dX11_number_52 rfl (lv_at hl 0 rfl) ?_
          obtain rfl := Option.some.inj h
          exact gm_iret C0 hH dX11_number_53
        · replace h := gm_pos hc5 h
          exact tX11_number_b36 C0  h hH (lv_sub hl [0] rfl)

/-! X11_sign -/
abbrev wX11_sign (cI : ClassId) (q q_text q_refused q_tongue q_fresh q_kept q_isKept q_said q_talk : Nat) (m_thrown : Int32) (m_size : Int32) (m_at : Int32) (m_start : Int32) (m_token : Int32) (m_value : Int64) (m_faultAt : Int32) (m_allowed : Int32) (m_firstPair : Int32) (m_secondPair : Int32) (m_above : Int64) (m_below : Int64) (m_text : Nat → Int32) : va_W := [(q, .inr (11, [.int m_thrown, .ref q_refused, .ref q_tongue, .ref q_fresh, .ref q_kept, .ref q_isKept, .ref q_text, .int m_size, .int m_at, .int m_start, .int m_token, .long m_value, .int m_faultAt, .ref q_said, .ref q_talk, .int m_allowed, .int m_firstPair, .int m_secondPair, .long m_above, .long m_below])), (q_text, .inl (cI, 150, .inl m_text))]
abbrev rX11_sign : Room := { frames := 3, cells := 0, slots := 0, locals := 66 }
def fX11_sign_b16 (N : Nat)  (m_size : Int32) (m_at : Int32) (m_start : Int32) (m_token : Int32) (m_value : Int64) (m_faultAt : Int32) : Option (Int32 × Int32 × Int32 × Int64 × Int32) := gm_bind (fX11_faultHere N m_size m_start m_token m_faultAt) (fun o2 => some (m_at, m_start, m_token, m_value, o2))
def fX11_sign (N : Nat) (m_size : Int32) (m_at : Int32) (m_start : Int32) (m_token : Int32) (m_value : Int64) (m_faultAt : Int32) (m_text : Nat → Int32)  : Option (Int32 × Int32 × Int32 × Int64 × Int32) := (if m_faultAt = (-1) then (if m_token = 4 then gm_bind (fX11_next N m_size m_at m_start m_token m_value m_text) (fun o4 => some (o4.1, o4.2.1, o4.2.2.1, o4.2.2.2, m_faultAt)) else (fX11_sign_b16 N  m_size m_at m_start m_token m_value m_faultAt)) else (fX11_sign_b16 N  m_size m_at m_start m_token m_value m_faultAt))
set_option maxRecDepth 20000 in
theorem inX11_sign_X11 : ∀ w ∈ u_ws RX11 TX11 20, w ∈ wsX11_sign := fun w h => by
  obtain ⟨k, hk, rfl⟩ := List.mem_map.mp h
  have hk2 := List.mem_range.mp hk
  exact List.mem_of_getElem? (i := 36 + k) (by rcases (show k = 0 ∨ k = 1 ∨ k = 2 ∨ k = 3 ∨ k = 4 ∨ k = 5 ∨ k = 6 ∨ k = 7 ∨ k = 8 ∨ k = 9 ∨ k = 10 ∨ k = 11 ∨ k = 12 ∨ k = 13 ∨ k = 14 ∨ k = 15 ∨ k = 16 ∨ k = 17 ∨ k = 18 ∨ k = 19 by omega) with rfl | rfl | rfl | rfl | rfl | rfl | rfl | rfl | rfl | rfl | rfl | rfl | rfl | rfl | rfl | rfl | rfl | rfl | rfl | rfl <;> rfl)
set_option maxRecDepth 100000 in
set_option maxHeartbeats 4000000 in
theorem tX11_sign_b16 {p : Program} {l : Launch} {e : Env} {s : State} {m : MethodId} {args : Array Value} {below : List Frame} {meth : Method} {c : Code} {A : Nat → Prop} {dC : Nat → ClassId} {dI : Nat → Nat → Nat} {cI : ClassId} {q q_text q_refused q_tongue q_fresh q_kept q_isKept q_said q_talk : Nat} {m_thrown : Int32} {m_size : Int32} {m_at : Int32} {m_start : Int32} {m_token : Int32} {m_value : Int64} {m_faultAt : Int32} {m_allowed : Int32} {m_firstPair : Int32} {m_secondPair : Int32} {m_above : Int64} {m_below : Int64} {m_text : Nat → Int32} (C0 : gm_C p s m args meth c (dC, dI) [(cI, .int)] A gm_T RX11 cX11_sign 1 none wsX11_sign) {N : Nat} {out : Int32 × Int32 × Int32 × Int64 × Int32}    {H : Heap} {locs : List Loc} {ls : Array Slot} (h : fX11_sign_b16 N  m_size m_at m_start m_token m_value m_faultAt = some out) (hH : gm_H (dC, dI) A s (wX11_sign cI q q_text q_refused q_tongue q_fresh q_kept q_isKept q_said q_talk m_thrown m_size m_at m_start m_token m_value m_faultAt m_allowed m_firstPair m_secondPair m_above m_below m_text) H locs) (hl : lv_has ls 1 [(0, .ref q)]) : W p l e rX11_sign s m args below meth c H locs 0 0 (MQ below (gm_Q (dC, dI) [(cI, .int)] A none (wX11_sign cI q q_text q_refused q_tongue q_fresh q_kept q_isKept q_said q_talk m_thrown m_size out.1 out.2.1 out.2.2.1 out.2.2.2.1 out.2.2.2.2 m_allowed m_firstPair m_secondPair m_above m_below m_text)) args s 0 0 A) (F0 m 16 ls []) := by
  obtain ⟨hx, hb, hml, hr, hown, hts, hA, hK, hX, hlocks⟩ := id C0
  unfold fX11_sign_b16 at h
  refine lv_aload_n hx hb dX11_sign_16 rfl (lv_at hl 0 rfl) ?_
  obtain ⟨o2, ho2, h⟩ := gm_bind_e h
  refine gm_callV (As := []) (rest := []) (n := 0) (ci := 11) (q0 := 0) C0 hH (mX11_faultHere l dC dI  q q_refused q_tongue q_fresh q_kept q_isKept q_text q_said q_talk m_thrown m_size m_at m_start m_token m_value m_faultAt m_allowed m_firstPair m_secondPair m_above m_below    ho2) gX11_sign_X11_faultHere rfl (by decide +kernel) ⟨rfl, rfl, Nat.le_of_ble_eq_true rfl, Nat.le_of_ble_eq_true rfl⟩ gm_T_ok (fun _ => trivial) [0] rfl rfl rfl [] rfl rfl rfl rfl hl.1 rfl (Nat.le_of_ble_eq_true rfl) dX11_sign_17 ⟨Nat.zero_le _, Nat.zero_le _⟩ (fun H locs hH => ?_)
  have hH : gm_H (dC, dI) A s (wX11_sign cI q q_text q_refused q_tongue q_fresh q_kept q_isKept q_said q_talk m_thrown m_size m_at m_start m_token m_value o2 m_allowed m_firstPair m_secondPair m_above m_below m_text) H locs := hH
  refine lv_goto (tgt := 27) hx hb dX11_sign_20 (by decide) ?_
  obtain rfl := Option.some.inj h
  exact gm_vret C0 hH dX11_sign_27
set_option maxRecDepth 100000 in
set_option maxHeartbeats 4000000 in
theorem mX11_sign (l : Launch) (dC : Nat → ClassId) (dI : Nat → Nat → Nat) (cI : ClassId) (q q_text q_refused q_tongue q_fresh q_kept q_isKept q_said q_talk : Nat) (m_thrown : Int32) (m_size : Int32) (m_at : Int32) (m_start : Int32) (m_token : Int32) (m_value : Int64) (m_faultAt : Int32) (m_allowed : Int32) (m_firstPair : Int32) (m_secondPair : Int32) (m_above : Int64) (m_below : Int64) (m_text : Nat → Int32)   {N : Nat} {out : Int32 × Int32 × Int32 × Int64 × Int32} (h : fX11_sign N m_size m_at m_start m_token m_value m_faultAt m_text = some out) : gm_Met l yX11_sign wsX11_sign rX11_sign (dC, dI) [(cI, .int)] gm_T [.ref q] (wX11_sign cI q q_text q_refused q_tongue q_fresh q_kept q_isKept q_said q_talk m_thrown m_size m_at m_start m_token m_value m_faultAt m_allowed m_firstPair m_secondPair m_above m_below m_text) none (wX11_sign cI q q_text q_refused q_tongue q_fresh q_kept q_isKept q_said q_talk m_thrown m_size out.1 out.2.1 out.2.2.1 out.2.2.2.1 out.2.2.2.2 m_allowed m_firstPair m_secondPair m_above m_below m_text) := by
  refine gm_ofW (cc := cX11_sign) (maxL := 1) (ret := none) (by decide +kernel) rfl (Nat.le_of_ble_eq_true rfl) ?_
  intro p e s m below meth c A C0 hH ls hl
  generalize ([.ref q] : List Value).toArray = args at C0 ⊢
  have hl : lv_has ls 1 [(0, .ref q)] := hl
  generalize s.heap = H at hH ⊢
  generalize ([] : List Loc) = locs at hH ⊢
  obtain ⟨hx, hb, hml, hr, hown, hts, hA, hK, hX, hlocks⟩ := id C0
  unfold fX11_sign at h
  refine lv_aload_n hx hb dX11_sign_0 rfl (lv_at hl 0 rfl) ?_
  refine gm_get (ci := 11) C0 hH inX11_sign_X11 0 12 1 rfl rfl (by decide) rfl rfl dX11_sign_1 ?_
  refine lv_iconst (v := (-1)) hx hb dX11_sign_4 (by decide) ?_
  refine lv_icmp_ne (tgt := 16) hx hb dX11_sign_5 (by decide) (fun hc1 => ?_) (fun hc1 => ?_)
  · replace h := gm_neg hc1 h
    exact tX11_sign_b16 C0  h hH (lv_sub hl [0] rfl)
  · replace h := gm_pos hc1 h
    refine lv_aload_n hx hb dX11_sign_8 rfl (lv_at hl 0 rfl) ?_
    refine gm_get (ci := 11) C0 hH inX11_sign_X11 0 10 2 rfl rfl (by decide) rfl rfl dX11_sign_9 ?_
    refine lv_iconst (v := 4) hx hb dX11_sign_12 (by decide) ?_
    refine lv_icmp_eq (tgt := 23) hx hb dX11_sign_13 (by decide) (fun hc3 => ?_) (fun hc3 => ?_)
    · replace h := gm_pos hc3 h
      refine lv_aload_n hx hb dX11_sign_23 rfl (lv_at hl 0 rfl) ?_
      obtain ⟨o4, ho4, h⟩ := gm_bind_e h
      refine gm_callV (As := []) (rest := []) (n := 0) (ci := 11) (q0 := 0) C0 hH (mX11_next l dC dI cI q q_text q_refused q_tongue q_fresh q_kept q_isKept q_said q_talk m_thrown m_size m_at m_start m_token m_value m_faultAt m_allowed m_firstPair m_secondPair m_above m_below m_text    ho4) gX11_sign_X11_next rfl (by decide +kernel) ⟨rfl, rfl, Nat.le_of_ble_eq_true rfl, Nat.le_of_ble_eq_true rfl⟩ gm_T_ok (fun _ => trivial) [0, 1] rfl rfl rfl [0] rfl rfl rfl rfl hl.1 rfl (Nat.le_of_ble_eq_true rfl) dX11_sign_24 ⟨Nat.zero_le _, Nat.zero_le _⟩ (fun H locs hH => ?_)
      have hH : gm_H (dC, dI) A s (wX11_sign cI q q_text q_refused q_tongue q_fresh q_kept q_isKept q_said q_talk m_thrown m_size o4.1 o4.2.1 o4.2.2.1 o4.2.2.2 m_faultAt m_allowed m_firstPair m_secondPair m_above m_below m_text) H locs := hH
      obtain rfl := Option.some.inj h
      exact gm_vret C0 hH dX11_sign_27
    · replace h := gm_neg hc3 h
      exact tX11_sign_b16 C0  h hH (lv_sub hl [0] rfl)

/-! X11_readItem -/
abbrev wX11_readItem (cI : ClassId) (q q_fresh q_text q_refused q_tongue q_kept q_isKept q_said q_talk : Nat) (m_thrown : Int32) (m_size : Int32) (m_at : Int32) (m_start : Int32) (m_token : Int32) (m_value : Int64) (m_faultAt : Int32) (m_allowed : Int32) (m_firstPair : Int32) (m_secondPair : Int32) (m_above : Int64) (m_below : Int64) (m_fresh : Nat → Int32) (m_text : Nat → Int32) : va_W := [(q, .inr (11, [.int m_thrown, .ref q_refused, .ref q_tongue, .ref q_fresh, .ref q_kept, .ref q_isKept, .ref q_text, .int m_size, .int m_at, .int m_start, .int m_token, .long m_value, .int m_faultAt, .ref q_said, .ref q_talk, .int m_allowed, .int m_firstPair, .int m_secondPair, .long m_above, .long m_below])), (q_fresh, .inl (cI, 73, .inl m_fresh)), (q_text, .inl (cI, 150, .inl m_text))]
abbrev rX11_readItem : Room := { frames := 4, cells := 0, slots := 0, locals := 89 }
def fX11_readItem_b223 (N : Nat)  (m_size : Int32) (m_at : Int32) (m_start : Int32) (m_token : Int32) (m_value : Int64) (m_faultAt : Int32) (m_fresh : Nat → Int32) : Option (Int32 × Int32 × Int32 × Int64 × Int32 × (Nat → Int32)) := gm_bind (fX11_faultHere N m_size m_start m_token m_faultAt) (fun o5 => some (m_at, m_start, m_token, m_value, o5, m_fresh))
def fX11_readItem_b220 (N : Nat)  (m_at : Int32) (m_start : Int32) (m_token : Int32) (m_value : Int64) (m_faultAt : Int32) (m_fresh : Nat → Int32) : Option (Int32 × Int32 × Int32 × Int64 × Int32 × (Nat → Int32)) := some (m_at, m_start, m_token, m_value, m_faultAt, m_fresh)
def fX11_readItem_b155 (N : Nat)  (m_size : Int32) (m_at : Int32) (m_start : Int32) (m_token : Int32) (m_value : Int64) (m_faultAt : Int32) (m_fresh : Nat → Int32) (m_text : Nat → Int32) (x1 : Int32) : Option (Int32 × Int32 × Int32 × Int64 × Int32 × (Nat → Int32)) := (if x1 = 0 then (fX11_readItem_b223 N  m_size m_at m_start m_token m_value m_faultAt m_fresh) else (if (lg_cmp m_value 232608281) = 0 then gm_chk 1 73 ((if 5 ≤ (m_fresh (Int32.toNatClampNeg 1)) then (fX11_readItem_b223 N  m_size m_at m_start m_token m_value m_faultAt m_fresh) else gm_bind (fX11_next N m_size m_at m_start m_token m_value m_text) (fun o9 => gm_bind (fX11_number N m_size o9.1 o9.2.1 o9.2.2.1 o9.2.2.2 m_faultAt m_text 5 ((-1))) (fun o10 => gm_bind (fX11_number N m_size o10.2.1 o10.2.2.1 o10.2.2.2.1 o10.2.2.2.2.1 o10.2.2.2.2.2 m_text 7 ((-1))) (fun o11 => gm_bind (fX11_sign N m_size o11.2.1 o11.2.2.1 o11.2.2.2.1 o11.2.2.2.2.1 o11.2.2.2.2.2 m_text) (fun o12 => (if o12.2.2.2.2 = (-1) then gm_bind (fX11_addPerson N m_fresh o10.1 o11.1) (fun o14 => (fX11_readItem_b220 N  o12.1 o12.2.1 o12.2.2.1 o12.2.2.2.1 o12.2.2.2.2 o14)) else (fX11_readItem_b220 N  o12.1 o12.2.1 o12.2.2.1 o12.2.2.2.1 o12.2.2.2.2 m_fresh)))))))) else (fX11_readItem_b223 N  m_size m_at m_start m_token m_value m_faultAt m_fresh)))
def fX11_readItem_b152 (N : Nat)  (m_at : Int32) (m_start : Int32) (m_token : Int32) (m_value : Int64) (m_faultAt : Int32) (m_fresh : Nat → Int32) : Option (Int32 × Int32 × Int32 × Int64 × Int32 × (Nat → Int32)) := some (m_at, m_start, m_token, m_value, m_faultAt, m_fresh)
def fX11_readItem_b95 (N : Nat)  (m_size : Int32) (m_at : Int32) (m_start : Int32) (m_token : Int32) (m_value : Int64) (m_faultAt : Int32) (m_fresh : Nat → Int32) (m_text : Nat → Int32) (x1 : Int32) : Option (Int32 × Int32 × Int32 × Int64 × Int32 × (Nat → Int32)) := (if x1 = 0 then (fX11_readItem_b155 N  m_size m_at m_start m_token m_value m_faultAt m_fresh m_text x1) else (if (lg_cmp m_value 774500) = 0 then gm_bind (fX11_next N m_size m_at m_start m_token m_value m_text) (fun o16 => gm_bind (fX11_number N m_size o16.1 o16.2.1 o16.2.2.1 o16.2.2.2 m_faultAt m_text 7 ((-1))) (fun o17 => gm_bind (fX11_number N m_size o17.2.1 o17.2.2.1 o17.2.2.2.1 o17.2.2.2.2.1 o17.2.2.2.2.2 m_text 7 o17.1) (fun o18 => gm_bind (fX11_sign N m_size o18.2.1 o18.2.2.1 o18.2.2.2.1 o18.2.2.2.2.1 o18.2.2.2.2.2 m_text) (fun o19 => (if o19.2.2.2.2 = (-1) then gm_bind (fX11_setAlike N m_fresh o17.1 o18.1 1) (fun o21 => (fX11_readItem_b152 N  o19.1 o19.2.1 o19.2.2.1 o19.2.2.2.1 o19.2.2.2.2 o21)) else (fX11_readItem_b152 N  o19.1 o19.2.1 o19.2.2.1 o19.2.2.2.1 o19.2.2.2.2 m_fresh)))))) else (fX11_readItem_b155 N  m_size m_at m_start m_token m_value m_faultAt m_fresh m_text x1)))
def fX11_readItem_b92 (N : Nat)  (m_at : Int32) (m_start : Int32) (m_token : Int32) (m_value : Int64) (m_faultAt : Int32) (m_fresh : Nat → Int32) : Option (Int32 × Int32 × Int32 × Int64 × Int32 × (Nat → Int32)) := some (m_at, m_start, m_token, m_value, m_faultAt, m_fresh)
def fX11_readItem_b13 (N : Nat)  (m_size : Int32) (m_at : Int32) (m_start : Int32) (m_token : Int32) (m_value : Int64) (m_faultAt : Int32) (m_fresh : Nat → Int32) (m_text : Nat → Int32) (k0 : Int32) : Option (Int32 × Int32 × Int32 × Int64 × Int32 × (Nat → Int32)) := (if k0 = 0 then (fX11_readItem_b95 N  m_size m_at m_start m_token m_value m_faultAt m_fresh m_text k0) else (if (lg_cmp m_value 464134) = 0 then gm_chk 0 73 ((if 10 ≤ (m_fresh (Int32.toNatClampNeg 0)) then (fX11_readItem_b95 N  m_size m_at m_start m_token m_value m_faultAt m_fresh m_text k0) else gm_bind (fX11_next N m_size m_at m_start m_token m_value m_text) (fun o25 => gm_bind (fX11_number N m_size o25.1 o25.2.1 o25.2.2.1 o25.2.2.2 m_faultAt m_text 7 ((-1))) (fun o26 => gm_bind (fX11_number N m_size o26.2.1 o26.2.2.1 o26.2.2.2.1 o26.2.2.2.2.1 o26.2.2.2.2.2 m_text 7 ((-1))) (fun o27 => gm_bind (fX11_number N m_size o27.2.1 o27.2.2.1 o27.2.2.2.1 o27.2.2.2.2.1 o27.2.2.2.2.2 m_text 20 ((-1))) (fun o28 => gm_bind (fX11_sign N m_size o28.2.1 o28.2.2.1 o28.2.2.2.1 o28.2.2.2.2.1 o28.2.2.2.2.2 m_text) (fun o29 => (if o29.2.2.2.2 = (-1) then gm_bind (fX11_addWord N m_fresh o26.1 o27.1 o28.1) (fun o31 => (fX11_readItem_b92 N  o29.1 o29.2.1 o29.2.2.1 o29.2.2.2.1 o29.2.2.2.2 o31)) else (fX11_readItem_b92 N  o29.1 o29.2.1 o29.2.2.1 o29.2.2.2.1 o29.2.2.2.2 m_fresh))))))))) else (fX11_readItem_b95 N  m_size m_at m_start m_token m_value m_faultAt m_fresh m_text k0)))
def fX11_readItem (N : Nat) (m_size : Int32) (m_at : Int32) (m_start : Int32) (m_token : Int32) (m_value : Int64) (m_faultAt : Int32) (m_fresh : Nat → Int32) (m_text : Nat → Int32)  : Option (Int32 × Int32 × Int32 × Int64 × Int32 × (Nat → Int32)) := (if m_token = 2 then (fX11_readItem_b13 N  m_size m_at m_start m_token m_value m_faultAt m_fresh m_text 1) else (fX11_readItem_b13 N  m_size m_at m_start m_token m_value m_faultAt m_fresh m_text 0))
set_option maxRecDepth 20000 in
theorem inX11_readItem_X11 : ∀ w ∈ u_ws RX11 TX11 20, w ∈ wsX11_readItem := fun w h => by
  obtain ⟨k, hk, rfl⟩ := List.mem_map.mp h
  have hk2 := List.mem_range.mp hk
  exact List.mem_of_getElem? (i := 57 + k) (by rcases (show k = 0 ∨ k = 1 ∨ k = 2 ∨ k = 3 ∨ k = 4 ∨ k = 5 ∨ k = 6 ∨ k = 7 ∨ k = 8 ∨ k = 9 ∨ k = 10 ∨ k = 11 ∨ k = 12 ∨ k = 13 ∨ k = 14 ∨ k = 15 ∨ k = 16 ∨ k = 17 ∨ k = 18 ∨ k = 19 by omega) with rfl | rfl | rfl | rfl | rfl | rfl | rfl | rfl | rfl | rfl | rfl | rfl | rfl | rfl | rfl | rfl | rfl | rfl | rfl | rfl <;> rfl)
set_option maxRecDepth 100000 in
set_option maxHeartbeats 4000000 in
theorem tX11_readItem_b223 {p : Program} {l : Launch} {e : Env} {s : State} {m : MethodId} {args : Array Value} {below : List Frame} {meth : Method} {c : Code} {A : Nat → Prop} {dC : Nat → ClassId} {dI : Nat → Nat → Nat} {cI : ClassId} {q q_fresh q_text q_refused q_tongue q_kept q_isKept q_said q_talk : Nat} {m_thrown : Int32} {m_size : Int32} {m_at : Int32} {m_start : Int32} {m_token : Int32} {m_value : Int64} {m_faultAt : Int32} {m_allowed : Int32} {m_firstPair : Int32} {m_secondPair : Int32} {m_above : Int64} {m_below : Int64} {m_fresh : Nat → Int32} {m_text : Nat → Int32} (C0 : gm_C p s m args meth c (dC, dI) [(cI, .int)] A gm_T RX11 cX11_readItem 5 none wsX11_readItem) {N : Nat} {out : Int32 × Int32 × Int32 × Int64 × Int32 × (Nat → Int32)}    {H : Heap} {locs : List Loc} {ls : Array Slot} (h : fX11_readItem_b223 N  m_size m_at m_start m_token m_value m_faultAt m_fresh = some out) (hH : gm_H (dC, dI) A s (wX11_readItem cI q q_fresh q_text q_refused q_tongue q_kept q_isKept q_said q_talk m_thrown m_size m_at m_start m_token m_value m_faultAt m_allowed m_firstPair m_secondPair m_above m_below m_fresh m_text) H locs) (hl : lv_has ls 5 [(0, .ref q)]) : W p l e rX11_readItem s m args below meth c H locs 0 0 (MQ below (gm_Q (dC, dI) [(cI, .int)] A none (wX11_readItem cI q q_fresh q_text q_refused q_tongue q_kept q_isKept q_said q_talk m_thrown m_size out.1 out.2.1 out.2.2.1 out.2.2.2.1 out.2.2.2.2.1 m_allowed m_firstPair m_secondPair m_above m_below out.2.2.2.2.2 m_text)) args s 0 0 A) (F0 m 223 ls []) := by
  obtain ⟨hx, hb, hml, hr, hown, hts, hA, hK, hX, hlocks⟩ := id C0
  unfold fX11_readItem_b223 at h
  refine lv_aload_n hx hb dX11_readItem_223 rfl (lv_at hl 0 rfl) ?_
  obtain ⟨o5, ho5, h⟩ := gm_bind_e h
  refine gm_callV (As := []) (rest := []) (n := 0) (ci := 11) (q0 := 0) C0 hH (mX11_faultHere l dC dI  q q_refused q_tongue q_fresh q_kept q_isKept q_text q_said q_talk m_thrown m_size m_at m_start m_token m_value m_faultAt m_allowed m_firstPair m_secondPair m_above m_below    ho5) gX11_readItem_X11_faultHere rfl (by decide +kernel) ⟨rfl, rfl, Nat.le_of_ble_eq_true rfl, Nat.le_of_ble_eq_true rfl⟩ gm_T_ok (fun _ => trivial) [0] rfl rfl rfl [] rfl rfl rfl rfl hl.1 rfl (Nat.le_of_ble_eq_true rfl) dX11_readItem_224 ⟨Nat.zero_le _, Nat.zero_le _⟩ (fun H locs hH => ?_)
  have hH : gm_H (dC, dI) A s (wX11_readItem cI q q_fresh q_text q_refused q_tongue q_kept q_isKept q_said q_talk m_thrown m_size m_at m_start m_token m_value o5 m_allowed m_firstPair m_secondPair m_above m_below m_fresh m_text) H locs := hH
  obtain rfl := Option.some.inj h
  exact gm_vret C0 hH dX11_readItem_227
set_option maxRecDepth 100000 in
set_option maxHeartbeats 4000000 in
theorem tX11_readItem_b220 {p : Program} {l : Launch} {e : Env} {s : State} {m : MethodId} {args : Array Value} {below : List Frame} {meth : Method} {c : Code} {A : Nat → Prop} {dC : Nat → ClassId} {dI : Nat → Nat → Nat} {cI : ClassId} {q q_fresh q_text q_refused q_tongue q_kept q_isKept q_said q_talk : Nat} {m_thrown : Int32} {m_size : Int32} {m_at : Int32} {m_start : Int32} {m_token : Int32} {m_value : Int64} {m_faultAt : Int32} {m_allowed : Int32} {m_firstPair : Int32} {m_secondPair : Int32} {m_above : Int64} {m_below : Int64} {m_fresh : Nat → Int32} {m_text : Nat → Int32} (C0 : gm_C p s m args meth c (dC, dI) [(cI, .int)] A gm_T RX11 cX11_readItem 5 none wsX11_readItem) {N : Nat} {out : Int32 × Int32 × Int32 × Int64 × Int32 × (Nat → Int32)}    {H : Heap} {locs : List Loc} {ls : Array Slot} (h : fX11_readItem_b220 N  m_at m_start m_token m_value m_faultAt m_fresh = some out) (hH : gm_H (dC, dI) A s (wX11_readItem cI q q_fresh q_text q_refused q_tongue q_kept q_isKept q_said q_talk m_thrown m_size m_at m_start m_token m_value m_faultAt m_allowed m_firstPair m_secondPair m_above m_below m_fresh m_text) H locs) (hl : lv_has ls 5 []) : W p l e rX11_readItem s m args below meth c H locs 0 0 (MQ below (gm_Q (dC, dI) [(cI, .int)] A none (wX11_readItem cI q q_fresh q_text q_refused q_tongue q_kept q_isKept q_said q_talk m_thrown m_size out.1 out.2.1 out.2.2.1 out.2.2.2.1 out.2.2.2.2.1 m_allowed m_firstPair m_secondPair m_above m_below out.2.2.2.2.2 m_text)) args s 0 0 A) (F0 m 220 ls []) := by
  obtain ⟨hx, hb, hml, hr, hown, hts, hA, hK, hX, hlocks⟩ := id C0
  unfold fX11_readItem_b220 at h
  refine lv_goto (tgt := 227) hx hb dX11_readItem_220 (by decide) ?_
  obtain rfl := Option.some.inj h
  exact gm_vret C0 hH dX11_readItem_227
set_option maxRecDepth 100000 in
set_option maxHeartbeats 4000000 in
theorem tX11_readItem_b155 {p : Program} {l : Launch} {e : Env} {s : State} {m : MethodId} {args : Array Value} {below : List Frame} {meth : Method} {c : Code} {A : Nat → Prop} {dC : Nat → ClassId} {dI : Nat → Nat → Nat} {cI : ClassId} {q q_fresh q_text q_refused q_tongue q_kept q_isKept q_said q_talk : Nat} {m_thrown : Int32} {m_size : Int32} {m_at : Int32} {m_start : Int32} {m_token : Int32} {m_value : Int64} {m_faultAt : Int32} {m_allowed : Int32} {m_firstPair : Int32} {m_secondPair : Int32} {m_above : Int64} {m_below : Int64} {m_fresh : Nat → Int32} {m_text : Nat → Int32} {x1 : Int32} (C0 : gm_C p s m args meth c (dC, dI) [(cI, .int)] A gm_T RX11 cX11_readItem 5 none wsX11_readItem) {N : Nat} {out : Int32 × Int32 × Int32 × Int64 × Int32 × (Nat → Int32)}    {H : Heap} {locs : List Loc} {ls : Array Slot} (h : fX11_readItem_b155 N  m_size m_at m_start m_token m_value m_faultAt m_fresh m_text x1 = some out) (hH : gm_H (dC, dI) A s (wX11_readItem cI q q_fresh q_text q_refused q_tongue q_kept q_isKept q_said q_talk m_thrown m_size m_at m_start m_token m_value m_faultAt m_allowed m_firstPair m_secondPair m_above m_below m_fresh m_text) H locs) (hl : lv_has ls 5 [(0, .ref q), (1, .int x1)]) : W p l e rX11_readItem s m args below meth c H locs 0 0 (MQ below (gm_Q (dC, dI) [(cI, .int)] A none (wX11_readItem cI q q_fresh q_text q_refused q_tongue q_kept q_isKept q_said q_talk m_thrown m_size out.1 out.2.1 out.2.2.1 out.2.2.2.1 out.2.2.2.2.1 m_allowed m_firstPair m_secondPair m_above m_below out.2.2.2.2.2 m_text)) args s 0 0 A) (F0 m 155 ls []) := by
  obtain ⟨hx, hb, hml, hr, hown, hts, hA, hK, hX, hlocks⟩ := id C0
  unfold fX11_readItem_b155 at h
  refine lv_iload_n hx hb dX11_readItem_155 rfl (lv_at hl 1 rfl) ?_
  refine lv_if_eq (tgt := 223) hx hb dX11_readItem_156 (by decide) (fun hc4 => ?_) (fun hc4 => ?_)
  · replace h := gm_pos hc4 h
    exact tX11_readItem_b223 C0  h hH (lv_sub hl [0] rfl)
  · replace h := gm_neg hc4 h
    refine lv_aload_n hx hb dX11_readItem_159 rfl (lv_at hl 0 rfl) ?_
    refine gm_get (ci := 11) C0 hH inX11_readItem_X11 0 11 2 rfl rfl (by decide) rfl rfl dX11_readItem_160 ?_
    refine lv_ldc2 (own := RX11) (v := 232608281) hx hb hown (gm_at C0 7 rfl) dX11_readItem_163 ?_
    refine W.lcmp hx hb dX11_readItem_166 ?_
    refine lv_if_ne (tgt := 223) hx hb dX11_readItem_167 (by decide) (fun hc6 => ?_) (fun hc6 => ?_)
    · replace h := gm_neg hc6 h
      exact tX11_readItem_b223 C0  h hH (lv_sub hl [0] rfl)
    · replace h := gm_pos hc6 h
      refine lv_aload_n hx hb dX11_readItem_170 rfl (lv_at hl 0 rfl) ?_
      refine gm_get (ci := 11) C0 hH inX11_readItem_X11 0 3 4 rfl rfl (by decide) rfl rfl dX11_readItem_171 ?_
      refine lv_iconst (v := 1) hx hb dX11_readItem_174 (by decide) ?_
      obtain ⟨hi7, h⟩ := gm_chk_e h
      refine gm_iald C0 hH hi7 1 0 rfl rfl dX11_readItem_175 ?_
      refine lv_iconst (v := 5) hx hb dX11_readItem_176 (by decide) ?_
      refine lv_icmp_ge (tgt := 223) hx hb dX11_readItem_177 (by decide) (fun hc8 => ?_) (fun hc8 => ?_)
      · replace h := gm_pos hc8 h
        exact tX11_readItem_b223 C0  h hH (lv_sub hl [0] rfl)
      · replace h := gm_neg hc8 h
        refine lv_aload_n hx hb dX11_readItem_180 rfl (lv_at hl 0 rfl) ?_
        obtain ⟨o9, ho9, h⟩ := gm_bind_e h
        refine gm_callV (As := []) (rest := []) (n := 0) (ci := 11) (q0 := 0) C0 hH (mX11_next l dC dI cI q q_text q_refused q_tongue q_fresh q_kept q_isKept q_said q_talk m_thrown m_size m_at m_start m_token m_value m_faultAt m_allowed m_firstPair m_secondPair m_above m_below m_text    ho9) gX11_readItem_X11_next rfl (by decide +kernel) ⟨rfl, rfl, Nat.le_of_ble_eq_true rfl, Nat.le_of_ble_eq_true rfl⟩ gm_T_ok (fun _ => trivial) [0, 2] rfl rfl rfl [0] rfl rfl rfl rfl hl.1 rfl (Nat.le_of_ble_eq_true rfl) dX11_readItem_181 ⟨Nat.zero_le _, Nat.zero_le _⟩ (fun H locs hH => ?_)
        have hH : gm_H (dC, dI) A s (wX11_readItem cI q q_fresh q_text q_refused q_tongue q_kept q_isKept q_said q_talk m_thrown m_size o9.1 o9.2.1 o9.2.2.1 o9.2.2.2 m_faultAt m_allowed m_firstPair m_secondPair m_above m_below m_fresh m_text) H locs := hH
        refine lv_aload_n hx hb dX11_readItem_184 rfl (lv_at hl 0 rfl) ?_
        refine lv_iconst (v := 5) hx hb dX11_readItem_185 (by decide) ?_
        refine lv_iconst (v := (-1)) hx hb dX11_readItem_186 (by decide) ?_
        obtain ⟨o10, ho10, h⟩ := gm_bind_e h
        refine gm_callV (As := [.int 5, .int (-1)]) (rest := []) (n := 2) (ci := 11) (q0 := 0) C0 hH (mX11_number l dC dI cI q q_text q_refused q_tongue q_fresh q_kept q_isKept q_said q_talk m_thrown m_size o9.1 o9.2.1 o9.2.2.1 o9.2.2.2 m_faultAt m_allowed m_firstPair m_secondPair m_above m_below m_text 5 ((-1))   ho10) gX11_readItem_X11_number rfl (by decide +kernel) ⟨rfl, rfl, Nat.le_of_ble_eq_true rfl, Nat.le_of_ble_eq_true rfl⟩ gm_T_ok (fun _ => trivial) [0, 2] rfl rfl rfl [0] rfl rfl rfl rfl hl.1 rfl (Nat.le_of_ble_eq_true rfl) dX11_readItem_187 ⟨Nat.zero_le _, Nat.zero_le _⟩ (fun H locs hH => ?_)
        have hH : gm_H (dC, dI) A s (wX11_readItem cI q q_fresh q_text q_refused q_tongue q_kept q_isKept q_said q_talk m_thrown m_size o10.2.1 o10.2.2.1 o10.2.2.2.1 o10.2.2.2.2.1 o10.2.2.2.2.2 m_allowed m_firstPair m_secondPair m_above m_below m_fresh m_text) H locs := hH
        refine lv_istore_n (lv' := [(2, .int o10.1), (0, .ref q), (1, .int x1)]) hx hb dX11_readItem_190 rfl hl (by decide) rfl (fun ls hl => ?_)
        refine lv_aload_n hx hb dX11_readItem_191 rfl (lv_at hl 1 rfl) ?_
        refine lv_bipush (v := 7) hx hb dX11_readItem_192 (by decide) ?_
        refine lv_iconst (v := (-1)) hx hb dX11_readItem_194 (by decide) ?_
        obtain ⟨o11, ho11, h⟩ := gm_bind_e h
        refine gm_callV (As := [.int 7, .int (-1)]) (rest := []) (n := 2) (ci := 11) (q0 := 0) C0 hH (mX11_number l dC dI cI q q_text q_refused q_tongue q_fresh q_kept q_isKept q_said q_talk m_thrown m_size o10.2.1 o10.2.2.1 o10.2.2.2.1 o10.2.2.2.2.1 o10.2.2.2.2.2 m_allowed m_firstPair m_secondPair m_above m_below m_text 7 ((-1))   ho11) gX11_readItem_X11_number rfl (by decide +kernel) ⟨rfl, rfl, Nat.le_of_ble_eq_true rfl, Nat.le_of_ble_eq_true rfl⟩ gm_T_ok (fun _ => trivial) [0, 2] rfl rfl rfl [0] rfl rfl rfl rfl hl.1 rfl (Nat.le_of_ble_eq_true rfl) dX11_readItem_195 ⟨Nat.zero_le _, Nat.zero_le _⟩ (fun H locs hH => ?_)
        have hH : gm_H (dC, dI) A s (wX11_readItem cI q q_fresh q_text q_refused q_tongue q_kept q_isKept q_said q_talk m_thrown m_size o11.2.1 o11.2.2.1 o11.2.2.2.1 o11.2.2.2.2.1 o11.2.2.2.2.2 m_allowed m_firstPair m_secondPair m_above m_below m_fresh m_text) H locs := hH
        refine lv_istore_n (lv' := [(3, .int o11.1), (2, .int o10.1), (0, .ref q), (1, .int x1)]) hx hb dX11_readItem_198 rfl hl (by decide) rfl (fun ls hl => ?_)
        refine lv_aload_n hx hb dX11_readItem_199 rfl (lv_at hl 2 rfl) ?_
        obtain ⟨o12, ho12, h⟩ := gm_bind_e h
        refine gm_callV (As := []) (rest := []) (n := 0) (ci := 11) (q0 := 0) C0 hH (mX11_sign l dC dI cI q q_text q_refused q_tongue q_fresh q_kept q_isKept q_said q_talk m_thrown m_size o11.2.1 o11.2.2.1 o11.2.2.2.1 o11.2.2.2.2.1 o11.2.2.2.2.2 m_allowed m_firstPair m_secondPair m_above m_below m_text    ho12) gX11_readItem_X11_sign rfl (by decide +kernel) ⟨rfl, rfl, Nat.le_of_ble_eq_true rfl, Nat.le_of_ble_eq_true rfl⟩ gm_T_ok (fun _ => trivial) [0, 2] rfl rfl rfl [0] rfl rfl rfl rfl hl.1 rfl (Nat.le_of_ble_eq_true rfl) dX11_readItem_200 ⟨Nat.zero_le _, Nat.zero_le _⟩ (fun H locs hH => ?_)
        have hH : gm_H (dC, dI) A s (wX11_readItem cI q q_fresh q_text q_refused q_tongue q_kept q_isKept q_said q_talk m_thrown m_size o12.1 o12.2.1 o12.2.2.1 o12.2.2.2.1 o12.2.2.2.2 m_allowed m_firstPair m_secondPair m_above m_below m_fresh m_text) H locs := hH
        refine lv_aload_n hx hb dX11_readItem_203 rfl (lv_at hl 2 rfl) ?_
        refine gm_get (ci := 11) C0 hH inX11_readItem_X11 0 12 5 rfl rfl (by decide) rfl rfl dX11_readItem_204 ?_
        refine lv_iconst (v := (-1)) hx hb dX11_readItem_207 (by decide) ?_
        refine lv_icmp_ne (tgt := 220) hx hb dX11_readItem_208 (by decide) (fun hc13 => ?_) (fun hc13 => ?_)
        · replace h := gm_neg hc13 h
          exact tX11_readItem_b220 C0  h hH (lv_sub hl [] rfl)
        · replace h := gm_pos hc13 h
          refine lv_aload_n hx hb dX11_readItem_211 rfl (lv_at hl 2 rfl) ?_
          refine gm_get (ci := 11) C0 hH inX11_readItem_X11 0 3 4 rfl rfl (by decide) rfl rfl dX11_readItem_212 ?_
          refine lv_iload_n hx hb dX11_readItem_215 rfl (lv_at hl 1 rfl) ?_
          refine lv_iload_n hx hb dX11_readItem_216 rfl (lv_at hl 0 rfl) ?_
          obtain ⟨o14, ho14, h⟩ := gm_bind_e h
          refine gm_callS (As := [.ref q_fresh, .int o10.1, .int o11.1]) (rest := []) (n := 3) C0 hH (mX11_addPerson l dC dI cI q_fresh m_fresh o10.1 o11.1   ho14) gX11_readItem_X11_addPerson rfl (by decide +kernel) ⟨rfl, rfl, Nat.le_of_ble_eq_true rfl, Nat.le_of_ble_eq_true rfl⟩ gm_T_ok (fun _ => trivial) [1] rfl rfl rfl [0] rfl rfl hl.1 rfl (Nat.le_of_ble_eq_true rfl) dX11_readItem_217 ⟨Nat.zero_le _, Nat.zero_le _⟩ (fun H locs hH => ?_)
          have hH : gm_H (dC, dI) A s (wX11_readItem cI q q_fresh q_text q_refused q_tongue q_kept q_isKept q_said q_talk m_thrown m_size o12.1 o12.2.1 o12.2.2.1 o12.2.2.2.1 o12.2.2.2.2 m_allowed m_firstPair m_secondPair m_above m_below o14 m_text) H locs := hH
          exact tX11_readItem_b220 C0  h hH (lv_sub hl [] rfl)
set_option maxRecDepth 100000 in
set_option maxHeartbeats 4000000 in
theorem tX11_readItem_b152 {p : Program} {l : Launch} {e : Env} {s : State} {m : MethodId} {args : Array Value} {below : List Frame} {meth : Method} {c : Code} {A : Nat → Prop} {dC : Nat → ClassId} {dI : Nat → Nat → Nat} {cI : ClassId} {q q_fresh q_text q_refused q_tongue q_kept q_isKept q_said q_talk : Nat} {m_thrown : Int32} {m_size : Int32} {m_at : Int32} {m_start : Int32} {m_token : Int32} {m_value : Int64} {m_faultAt : Int32} {m_allowed : Int32} {m_firstPair : Int32} {m_secondPair : Int32} {m_above : Int64} {m_below : Int64} {m_fresh : Nat → Int32} {m_text : Nat → Int32} (C0 : gm_C p s m args meth c (dC, dI) [(cI, .int)] A gm_T RX11 cX11_readItem 5 none wsX11_readItem) {N : Nat} {out : Int32 × Int32 × Int32 × Int64 × Int32 × (Nat → Int32)}    {H : Heap} {locs : List Loc} {ls : Array Slot} (h : fX11_readItem_b152 N  m_at m_start m_token m_value m_faultAt m_fresh = some out) (hH : gm_H (dC, dI) A s (wX11_readItem cI q q_fresh q_text q_refused q_tongue q_kept q_isKept q_said q_talk m_thrown m_size m_at m_start m_token m_value m_faultAt m_allowed m_firstPair m_secondPair m_above m_below m_fresh m_text) H locs) (hl : lv_has ls 5 []) : W p l e rX11_readItem s m args below meth c H locs 0 0 (MQ below (gm_Q (dC, dI) [(cI, .int)] A none (wX11_readItem cI q q_fresh q_text q_refused q_tongue q_kept q_isKept q_said q_talk m_thrown m_size out.1 out.2.1 out.2.2.1 out.2.2.2.1 out.2.2.2.2.1 m_allowed m_firstPair m_secondPair m_above m_below out.2.2.2.2.2 m_text)) args s 0 0 A) (F0 m 152 ls []) := by
  obtain ⟨hx, hb, hml, hr, hown, hts, hA, hK, hX, hlocks⟩ := id C0
  unfold fX11_readItem_b152 at h
  refine lv_goto (tgt := 227) hx hb dX11_readItem_152 (by decide) ?_
  obtain rfl := Option.some.inj h
  exact gm_vret C0 hH dX11_readItem_227
set_option maxRecDepth 100000 in
set_option maxHeartbeats 4000000 in
theorem tX11_readItem_b95 {p : Program} {l : Launch} {e : Env} {s : State} {m : MethodId} {args : Array Value} {below : List Frame} {meth : Method} {c : Code} {A : Nat → Prop} {dC : Nat → ClassId} {dI : Nat → Nat → Nat} {cI : ClassId} {q q_fresh q_text q_refused q_tongue q_kept q_isKept q_said q_talk : Nat} {m_thrown : Int32} {m_size : Int32} {m_at : Int32} {m_start : Int32} {m_token : Int32} {m_value : Int64} {m_faultAt : Int32} {m_allowed : Int32} {m_firstPair : Int32} {m_secondPair : Int32} {m_above : Int64} {m_below : Int64} {m_fresh : Nat → Int32} {m_text : Nat → Int32} {x1 : Int32} (C0 : gm_C p s m args meth c (dC, dI) [(cI, .int)] A gm_T RX11 cX11_readItem 5 none wsX11_readItem) {N : Nat} {out : Int32 × Int32 × Int32 × Int64 × Int32 × (Nat → Int32)}    {H : Heap} {locs : List Loc} {ls : Array Slot} (h : fX11_readItem_b95 N  m_size m_at m_start m_token m_value m_faultAt m_fresh m_text x1 = some out) (hH : gm_H (dC, dI) A s (wX11_readItem cI q q_fresh q_text q_refused q_tongue q_kept q_isKept q_said q_talk m_thrown m_size m_at m_start m_token m_value m_faultAt m_allowed m_firstPair m_secondPair m_above m_below m_fresh m_text) H locs) (hl : lv_has ls 5 [(0, .ref q), (1, .int x1)]) : W p l e rX11_readItem s m args below meth c H locs 0 0 (MQ below (gm_Q (dC, dI) [(cI, .int)] A none (wX11_readItem cI q q_fresh q_text q_refused q_tongue q_kept q_isKept q_said q_talk m_thrown m_size out.1 out.2.1 out.2.2.1 out.2.2.2.1 out.2.2.2.2.1 m_allowed m_firstPair m_secondPair m_above m_below out.2.2.2.2.2 m_text)) args s 0 0 A) (F0 m 95 ls []) := by
  obtain ⟨hx, hb, hml, hr, hown, hts, hA, hK, hX, hlocks⟩ := id C0
  unfold fX11_readItem_b95 at h
  refine lv_iload_n hx hb dX11_readItem_95 rfl (lv_at hl 1 rfl) ?_
  refine lv_if_eq (tgt := 155) hx hb dX11_readItem_96 (by decide) (fun hc3 => ?_) (fun hc3 => ?_)
  · replace h := gm_pos hc3 h
    exact tX11_readItem_b155 C0  h hH (lv_sub hl [0, 1] rfl)
  · replace h := gm_neg hc3 h
    refine lv_aload_n hx hb dX11_readItem_99 rfl (lv_at hl 0 rfl) ?_
    refine gm_get (ci := 11) C0 hH inX11_readItem_X11 0 11 2 rfl rfl (by decide) rfl rfl dX11_readItem_100 ?_
    refine lv_ldc2 (own := RX11) (v := 774500) hx hb hown (gm_at C0 6 rfl) dX11_readItem_103 ?_
    refine W.lcmp hx hb dX11_readItem_106 ?_
    refine lv_if_ne (tgt := 155) hx hb dX11_readItem_107 (by decide) (fun hc15 => ?_) (fun hc15 => ?_)
    · replace h := gm_neg hc15 h
      exact tX11_readItem_b155 C0  h hH (lv_sub hl [0, 1] rfl)
    · replace h := gm_pos hc15 h
      refine lv_aload_n hx hb dX11_readItem_110 rfl (lv_at hl 0 rfl) ?_
      obtain ⟨o16, ho16, h⟩ := gm_bind_e h
      refine gm_callV (As := []) (rest := []) (n := 0) (ci := 11) (q0 := 0) C0 hH (mX11_next l dC dI cI q q_text q_refused q_tongue q_fresh q_kept q_isKept q_said q_talk m_thrown m_size m_at m_start m_token m_value m_faultAt m_allowed m_firstPair m_secondPair m_above m_below m_text    ho16) gX11_readItem_X11_next rfl (by decide +kernel) ⟨rfl, rfl, Nat.le_of_ble_eq_true rfl, Nat.le_of_ble_eq_true rfl⟩ gm_T_ok (fun _ => trivial) [0, 2] rfl rfl rfl [0] rfl rfl rfl rfl hl.1 rfl (Nat.le_of_ble_eq_true rfl) dX11_readItem_111 ⟨Nat.zero_le _, Nat.zero_le _⟩ (fun H locs hH => ?_)
      have hH : gm_H (dC, dI) A s (wX11_readItem cI q q_fresh q_text q_refused q_tongue q_kept q_isKept q_said q_talk m_thrown m_size o16.1 o16.2.1 o16.2.2.1 o16.2.2.2 m_faultAt m_allowed m_firstPair m_secondPair m_above m_below m_fresh m_text) H locs := hH
      refine lv_aload_n hx hb dX11_readItem_114 rfl (lv_at hl 0 rfl) ?_
      refine lv_bipush (v := 7) hx hb dX11_readItem_115 (by decide) ?_
      refine lv_iconst (v := (-1)) hx hb dX11_readItem_117 (by decide) ?_
      obtain ⟨o17, ho17, h⟩ := gm_bind_e h
      refine gm_callV (As := [.int 7, .int (-1)]) (rest := []) (n := 2) (ci := 11) (q0 := 0) C0 hH (mX11_number l dC dI cI q q_text q_refused q_tongue q_fresh q_kept q_isKept q_said q_talk m_thrown m_size o16.1 o16.2.1 o16.2.2.1 o16.2.2.2 m_faultAt m_allowed m_firstPair m_secondPair m_above m_below m_text 7 ((-1))   ho17) gX11_readItem_X11_number rfl (by decide +kernel) ⟨rfl, rfl, Nat.le_of_ble_eq_true rfl, Nat.le_of_ble_eq_true rfl⟩ gm_T_ok (fun _ => trivial) [0, 2] rfl rfl rfl [0] rfl rfl rfl rfl hl.1 rfl (Nat.le_of_ble_eq_true rfl) dX11_readItem_118 ⟨Nat.zero_le _, Nat.zero_le _⟩ (fun H locs hH => ?_)
      have hH : gm_H (dC, dI) A s (wX11_readItem cI q q_fresh q_text q_refused q_tongue q_kept q_isKept q_said q_talk m_thrown m_size o17.2.1 o17.2.2.1 o17.2.2.2.1 o17.2.2.2.2.1 o17.2.2.2.2.2 m_allowed m_firstPair m_secondPair m_above m_below m_fresh m_text) H locs := hH
      refine lv_istore_n (lv' := [(2, .int o17.1), (0, .ref q), (1, .int x1)]) hx hb dX11_readItem_121 rfl hl (by decide) rfl (fun ls hl => ?_)
      refine lv_aload_n hx hb dX11_readItem_122 rfl (lv_at hl 1 rfl) ?_
      refine lv_bipush (v := 7) hx hb dX11_readItem_123 (by decide) ?_
      refine lv_iload_n hx hb dX11_readItem_125 rfl (lv_at hl 0 rfl) ?_
      obtain ⟨o18, ho18, h⟩ := gm_bind_e h
      refine gm_callV (As := [.int 7, .int o17.1]) (rest := []) (n := 2) (ci := 11) (q0 := 0) C0 hH (mX11_number l dC dI cI q q_text q_refused q_tongue q_fresh q_kept q_isKept q_said q_talk m_thrown m_size o17.2.1 o17.2.2.1 o17.2.2.2.1 o17.2.2.2.2.1 o17.2.2.2.2.2 m_allowed m_firstPair m_secondPair m_above m_below m_text 7 o17.1   ho18) gX11_readItem_X11_number rfl (by decide +kernel) ⟨rfl, rfl, Nat.le_of_ble_eq_true rfl, Nat.le_of_ble_eq_true rfl⟩ gm_T_ok (fun _ => trivial) [0, 2] rfl rfl rfl [0] rfl rfl rfl rfl hl.1 rfl (Nat.le_of_ble_eq_true rfl) dX11_readItem_126 ⟨Nat.zero_le _, Nat.zero_le _⟩ (fun H locs hH => ?_)
      have hH : gm_H (dC, dI) A s (wX11_readItem cI q q_fresh q_text q_refused q_tongue q_kept q_isKept q_said q_talk m_thrown m_size o18.2.1 o18.2.2.1 o18.2.2.2.1 o18.2.2.2.2.1 o18.2.2.2.2.2 m_allowed m_firstPair m_secondPair m_above m_below m_fresh m_text) H locs := hH
      refine lv_istore_n (lv' := [(3, .int o18.1), (2, .int o17.1), (0, .ref q), (1, .int x1)]) hx hb dX11_readItem_129 rfl hl (by decide) rfl (fun ls hl => ?_)
      refine lv_aload_n hx hb dX11_readItem_130 rfl (lv_at hl 2 rfl) ?_
      obtain ⟨o19, ho19, h⟩ := gm_bind_e h
      refine gm_callV (As := []) (rest := []) (n := 0) (ci := 11) (q0 := 0) C0 hH (mX11_sign l dC dI cI q q_text q_refused q_tongue q_fresh q_kept q_isKept q_said q_talk m_thrown m_size o18.2.1 o18.2.2.1 o18.2.2.2.1 o18.2.2.2.2.1 o18.2.2.2.2.2 m_allowed m_firstPair m_secondPair m_above m_below m_text    ho19) gX11_readItem_X11_sign rfl (by decide +kernel) ⟨rfl, rfl, Nat.le_of_ble_eq_true rfl, Nat.le_of_ble_eq_true rfl⟩ gm_T_ok (fun _ => trivial) [0, 2] rfl rfl rfl [0] rfl rfl rfl rfl hl.1 rfl (Nat.le_of_ble_eq_true rfl) dX11_readItem_131 ⟨Nat.zero_le _, Nat.zero_le _⟩ (fun H locs hH => ?_)
      have hH : gm_H (dC, dI) A s (wX11_readItem cI q q_fresh q_text q_refused q_tongue q_kept q_isKept q_said q_talk m_thrown m_size o19.1 o19.2.1 o19.2.2.1 o19.2.2.2.1 o19.2.2.2.2 m_allowed m_firstPair m_secondPair m_above m_below m_fresh m_text) H locs := hH
      refine lv_aload_n hx hb dX11_readItem_134 rfl (lv_at hl 2 rfl) ?_
      refine gm_get (ci := 11) C0 hH inX11_readItem_X11 0 12 5 rfl rfl (by decide) rfl rfl dX11_readItem_135 ?_
      refine lv_iconst (v := (-1)) hx hb dX11_readItem_138 (by decide) ?_
      refine lv_icmp_ne (tgt := 152) hx hb dX11_readItem_139 (by decide) (fun hc20 => ?_) (fun hc20 => ?_)
      · replace h := gm_neg hc20 h
        exact tX11_readItem_b152 C0  h hH (lv_sub hl [] rfl)
      · replace h := gm_pos hc20 h
        refine lv_aload_n hx hb dX11_readItem_142 rfl (lv_at hl 2 rfl) ?_
        refine gm_get (ci := 11) C0 hH inX11_readItem_X11 0 3 4 rfl rfl (by decide) rfl rfl dX11_readItem_143 ?_
        refine lv_iload_n hx hb dX11_readItem_146 rfl (lv_at hl 1 rfl) ?_
        refine lv_iload_n hx hb dX11_readItem_147 rfl (lv_at hl 0 rfl) ?_
        refine lv_iconst (v := 1) hx hb dX11_readItem_148 (by decide) ?_
        obtain ⟨o21, ho21, h⟩ := gm_bind_e h
        refine gm_callS (As := [.ref q_fresh, .int o17.1, .int o18.1, .int 1]) (rest := []) (n := 4) C0 hH (mX11_setAlike l dC dI cI q_fresh m_fresh o17.1 o18.1 1   ho21) gX11_readItem_X11_setAlike rfl (by decide +kernel) ⟨rfl, rfl, Nat.le_of_ble_eq_true rfl, Nat.le_of_ble_eq_true rfl⟩ gm_T_ok (fun _ => trivial) [1] rfl rfl rfl [0] rfl rfl hl.1 rfl (Nat.le_of_ble_eq_true rfl) dX11_readItem_149 ⟨Nat.zero_le _, Nat.zero_le _⟩ (fun H locs hH => ?_)
        have hH : gm_H (dC, dI) A s (wX11_readItem cI q q_fresh q_text q_refused q_tongue q_kept q_isKept q_said q_talk m_thrown m_size o19.1 o19.2.1 o19.2.2.1 o19.2.2.2.1 o19.2.2.2.2 m_allowed m_firstPair m_secondPair m_above m_below o21 m_text) H locs := hH
        exact tX11_readItem_b152 C0  h hH (lv_sub hl [] rfl)
set_option maxRecDepth 100000 in
set_option maxHeartbeats 4000000 in
theorem tX11_readItem_b92 {p : Program} {l : Launch} {e : Env} {s : State} {m : MethodId} {args : Array Value} {below : List Frame} {meth : Method} {c : Code} {A : Nat → Prop} {dC : Nat → ClassId} {dI : Nat → Nat → Nat} {cI : ClassId} {q q_fresh q_text q_refused q_tongue q_kept q_isKept q_said q_talk : Nat} {m_thrown : Int32} {m_size : Int32} {m_at : Int32} {m_start : Int32} {m_token : Int32} {m_value : Int64} {m_faultAt : Int32} {m_allowed : Int32} {m_firstPair : Int32} {m_secondPair : Int32} {m_above : Int64} {m_below : Int64} {m_fresh : Nat → Int32} {m_text : Nat → Int32} (C0 : gm_C p s m args meth c (dC, dI) [(cI, .int)] A gm_T RX11 cX11_readItem 5 none wsX11_readItem) {N : Nat} {out : Int32 × Int32 × Int32 × Int64 × Int32 × (Nat → Int32)}    {H : Heap} {locs : List Loc} {ls : Array Slot} (h : fX11_readItem_b92 N  m_at m_start m_token m_value m_faultAt m_fresh = some out) (hH : gm_H (dC, dI) A s (wX11_readItem cI q q_fresh q_text q_refused q_tongue q_kept q_isKept q_said q_talk m_thrown m_size m_at m_start m_token m_value m_faultAt m_allowed m_firstPair m_secondPair m_above m_below m_fresh m_text) H locs) (hl : lv_has ls 5 []) : W p l e rX11_readItem s m args below meth c H locs 0 0 (MQ below (gm_Q (dC, dI) [(cI, .int)] A none (wX11_readItem cI q q_fresh q_text q_refused q_tongue q_kept q_isKept q_said q_talk m_thrown m_size out.1 out.2.1 out.2.2.1 out.2.2.2.1 out.2.2.2.2.1 m_allowed m_firstPair m_secondPair m_above m_below out.2.2.2.2.2 m_text)) args s 0 0 A) (F0 m 92 ls []) := by
  obtain ⟨hx, hb, hml, hr, hown, hts, hA, hK, hX, hlocks⟩ := id C0
  unfold fX11_readItem_b92 at h
  refine lv_goto (tgt := 227) hx hb dX11_readItem_92 (by decide) ?_
  obtain rfl := Option.some.inj h
  exact gm_vret C0 hH dX11_readItem_227
set_option maxRecDepth 100000 in
set_option maxHeartbeats 4000000 in
theorem tX11_readItem_b13 {p : Program} {l : Launch} {e : Env} {s : State} {m : MethodId} {args : Array Value} {below : List Frame} {meth : Method} {c : Code} {A : Nat → Prop} {dC : Nat → ClassId} {dI : Nat → Nat → Nat} {cI : ClassId} {q q_fresh q_text q_refused q_tongue q_kept q_isKept q_said q_talk : Nat} {m_thrown : Int32} {m_size : Int32} {m_at : Int32} {m_start : Int32} {m_token : Int32} {m_value : Int64} {m_faultAt : Int32} {m_allowed : Int32} {m_firstPair : Int32} {m_secondPair : Int32} {m_above : Int64} {m_below : Int64} {m_fresh : Nat → Int32} {m_text : Nat → Int32} {k0 : Int32} (C0 : gm_C p s m args meth c (dC, dI) [(cI, .int)] A gm_T RX11 cX11_readItem 5 none wsX11_readItem) {N : Nat} {out : Int32 × Int32 × Int32 × Int64 × Int32 × (Nat → Int32)}    {H : Heap} {locs : List Loc} {ls : Array Slot} (h : fX11_readItem_b13 N  m_size m_at m_start m_token m_value m_faultAt m_fresh m_text k0 = some out) (hH : gm_H (dC, dI) A s (wX11_readItem cI q q_fresh q_text q_refused q_tongue q_kept q_isKept q_said q_talk m_thrown m_size m_at m_start m_token m_value m_faultAt m_allowed m_firstPair m_secondPair m_above m_below m_fresh m_text) H locs) (hl : lv_has ls 5 [(0, .ref q)]) : W p l e rX11_readItem s m args below meth c H locs 0 0 (MQ below (gm_Q (dC, dI) [(cI, .int)] A none (wX11_readItem cI q q_fresh q_text q_refused q_tongue q_kept q_isKept q_said q_talk m_thrown m_size out.1 out.2.1 out.2.2.1 out.2.2.2.1 out.2.2.2.2.1 m_allowed m_firstPair m_secondPair m_above m_below out.2.2.2.2.2 m_text)) args s 0 0 A) (F0 m 13 ls [.int k0]) := by
  obtain ⟨hx, hb, hml, hr, hown, hts, hA, hK, hX, hlocks⟩ := id C0
  unfold fX11_readItem_b13 at h
  refine lv_istore_n (lv' := [(1, .int k0), (0, .ref q)]) hx hb dX11_readItem_13 rfl hl (by decide) rfl (fun ls hl => ?_)
  refine lv_iload_n hx hb dX11_readItem_14 rfl (lv_at hl 0 rfl) ?_
  refine lv_if_eq (tgt := 95) hx hb dX11_readItem_15 (by decide) (fun hc2 => ?_) (fun hc2 => ?_)
  · replace h := gm_pos hc2 h
    exact tX11_readItem_b95 C0  h hH (lv_sub hl [1, 0] rfl)
  · replace h := gm_neg hc2 h
    refine lv_aload_n hx hb dX11_readItem_18 rfl (lv_at hl 1 rfl) ?_
    refine gm_get (ci := 11) C0 hH inX11_readItem_X11 0 11 2 rfl rfl (by decide) rfl rfl dX11_readItem_19 ?_
    refine lv_ldc2 (own := RX11) (v := 464134) hx hb hown (gm_at C0 3 rfl) dX11_readItem_22 ?_
    refine W.lcmp hx hb dX11_readItem_25 ?_
    refine lv_if_ne (tgt := 95) hx hb dX11_readItem_26 (by decide) (fun hc22 => ?_) (fun hc22 => ?_)
    · replace h := gm_neg hc22 h
      exact tX11_readItem_b95 C0  h hH (lv_sub hl [1, 0] rfl)
    · replace h := gm_pos hc22 h
      refine lv_aload_n hx hb dX11_readItem_29 rfl (lv_at hl 1 rfl) ?_
      refine gm_get (ci := 11) C0 hH inX11_readItem_X11 0 3 4 rfl rfl (by decide) rfl rfl dX11_readItem_30 ?_
      refine lv_iconst (v := 0) hx hb dX11_readItem_33 (by decide) ?_
      obtain ⟨hi23, h⟩ := gm_chk_e h
      refine gm_iald C0 hH hi23 1 0 rfl rfl dX11_readItem_34 ?_
      refine lv_bipush (v := 10) hx hb dX11_readItem_35 (by decide) ?_
      refine lv_icmp_ge (tgt := 95) hx hb dX11_readItem_37 (by decide) (fun hc24 => ?_) (fun hc24 => ?_)
      · replace h := gm_pos hc24 h
        exact tX11_readItem_b95 C0  h hH (lv_sub hl [1, 0] rfl)
      · replace h := gm_neg hc24 h
        refine lv_aload_n hx hb dX11_readItem_40 rfl (lv_at hl 1 rfl) ?_
        obtain ⟨o25, ho25, h⟩ := gm_bind_e h
        refine gm_callV (As := []) (rest := []) (n := 0) (ci := 11) (q0 := 0) C0 hH (mX11_next l dC dI cI q q_text q_refused q_tongue q_fresh q_kept q_isKept q_said q_talk m_thrown m_size m_at m_start m_token m_value m_faultAt m_allowed m_firstPair m_secondPair m_above m_below m_text    ho25) gX11_readItem_X11_next rfl (by decide +kernel) ⟨rfl, rfl, Nat.le_of_ble_eq_true rfl, Nat.le_of_ble_eq_true rfl⟩ gm_T_ok (fun _ => trivial) [0, 2] rfl rfl rfl [0] rfl rfl rfl rfl hl.1 rfl (Nat.le_of_ble_eq_true rfl) dX11_readItem_41 ⟨Nat.zero_le _, Nat.zero_le _⟩ (fun H locs hH => ?_)
        have hH : gm_H (dC, dI) A s (wX11_readItem cI q q_fresh q_text q_refused q_tongue q_kept q_isKept q_said q_talk m_thrown m_size o25.1 o25.2.1 o25.2.2.1 o25.2.2.2 m_faultAt m_allowed m_firstPair m_secondPair m_above m_below m_fresh m_text) H locs := hH
        refine lv_aload_n hx hb dX11_readItem_44 rfl (lv_at hl 1 rfl) ?_
        refine lv_bipush (v := 7) hx hb dX11_readItem_45 (by decide) ?_
        refine lv_iconst (v := (-1)) hx hb dX11_readItem_47 (by decide) ?_
        obtain ⟨o26, ho26, h⟩ := gm_bind_e h
        refine gm_callV (As := [.int 7, .int (-1)]) (rest := []) (n := 2) (ci := 11) (q0 := 0) C0 hH (mX11_number l dC dI cI q q_text q_refused q_tongue q_fresh q_kept q_isKept q_said q_talk m_thrown m_size o25.1 o25.2.1 o25.2.2.1 o25.2.2.2 m_faultAt m_allowed m_firstPair m_secondPair m_above m_below m_text 7 ((-1))   ho26) gX11_readItem_X11_number rfl (by decide +kernel) ⟨rfl, rfl, Nat.le_of_ble_eq_true rfl, Nat.le_of_ble_eq_true rfl⟩ gm_T_ok (fun _ => trivial) [0, 2] rfl rfl rfl [0] rfl rfl rfl rfl hl.1 rfl (Nat.le_of_ble_eq_true rfl) dX11_readItem_48 ⟨Nat.zero_le _, Nat.zero_le _⟩ (fun H locs hH => ?_)
        have hH : gm_H (dC, dI) A s (wX11_readItem cI q q_fresh q_text q_refused q_tongue q_kept q_isKept q_said q_talk m_thrown m_size o26.2.1 o26.2.2.1 o26.2.2.2.1 o26.2.2.2.2.1 o26.2.2.2.2.2 m_allowed m_firstPair m_secondPair m_above m_below m_fresh m_text) H locs := hH
        refine lv_istore_n (lv' := [(2, .int o26.1), (1, .int k0), (0, .ref q)]) hx hb dX11_readItem_51 rfl hl (by decide) rfl (fun ls hl => ?_)
        refine lv_aload_n hx hb dX11_readItem_52 rfl (lv_at hl 2 rfl) ?_
        refine lv_bipush (v := 7) hx hb dX11_readItem_53 (by decide) ?_
        refine lv_iconst (v := (-1)) hx hb dX11_readItem_55 (by decide) ?_
        obtain ⟨o27, ho27, h⟩ := gm_bind_e h
        refine gm_callV (As := [.int 7, .int (-1)]) (rest := []) (n := 2) (ci := 11) (q0 := 0) C0 hH (mX11_number l dC dI cI q q_text q_refused q_tongue q_fresh q_kept q_isKept q_said q_talk m_thrown m_size o26.2.1 o26.2.2.1 o26.2.2.2.1 o26.2.2.2.2.1 o26.2.2.2.2.2 m_allowed m_firstPair m_secondPair m_above m_below m_text 7 ((-1))   ho27) gX11_readItem_X11_number rfl (by decide +kernel) ⟨rfl, rfl, Nat.le_of_ble_eq_true rfl, Nat.le_of_ble_eq_true rfl⟩ gm_T_ok (fun _ => trivial) [0, 2] rfl rfl rfl [0] rfl rfl rfl rfl hl.1 rfl (Nat.le_of_ble_eq_true rfl) dX11_readItem_56 ⟨Nat.zero_le _, Nat.zero_le _⟩ (fun H locs hH => ?_)
        have hH : gm_H (dC, dI) A s (wX11_readItem cI q q_fresh q_text q_refused q_tongue q_kept q_isKept q_said q_talk m_thrown m_size o27.2.1 o27.2.2.1 o27.2.2.2.1 o27.2.2.2.2.1 o27.2.2.2.2.2 m_allowed m_firstPair m_secondPair m_above m_below m_fresh m_text) H locs := hH
        refine lv_istore_n (lv' := [(3, .int o27.1), (2, .int o26.1), (1, .int k0), (0, .ref q)]) hx hb dX11_readItem_59 rfl hl (by decide) rfl (fun ls hl => ?_)
        refine lv_aload_n hx hb dX11_readItem_60 rfl (lv_at hl 3 rfl) ?_
        refine lv_bipush (v := 20) hx hb dX11_readItem_61 (by decide) ?_
        refine lv_iconst (v := (-1)) hx hb dX11_readItem_63 (by decide) ?_
        obtain ⟨o28, ho28, h⟩ := gm_bind_e h
        refine gm_callV (As := [.int 20, .int (-1)]) (rest := []) (n := 2) (ci := 11) (q0 := 0) C0 hH (mX11_number l dC dI cI q q_text q_refused q_tongue q_fresh q_kept q_isKept q_said q_talk m_thrown m_size o27.2.1 o27.2.2.1 o27.2.2.2.1 o27.2.2.2.2.1 o27.2.2.2.2.2 m_allowed m_firstPair m_secondPair m_above m_below m_text 20 ((-1))   ho28) gX11_readItem_X11_number rfl (by decide +kernel) ⟨rfl, rfl, Nat.le_of_ble_eq_true rfl, Nat.le_of_ble_eq_true rfl⟩ gm_T_ok (fun _ => trivial) [0, 2] rfl rfl rfl [0] rfl rfl rfl rfl hl.1 rfl (Nat.le_of_ble_eq_true rfl) dX11_readItem_64 ⟨Nat.zero_le _, Nat.zero_le _⟩ (fun H locs hH => ?_)
        have hH : gm_H (dC, dI) A s (wX11_readItem cI q q_fresh q_text q_refused q_tongue q_kept q_isKept q_said q_talk m_thrown m_size o28.2.1 o28.2.2.1 o28.2.2.2.1 o28.2.2.2.2.1 o28.2.2.2.2.2 m_allowed m_firstPair m_secondPair m_above m_below m_fresh m_text) H locs := hH
        refine lv_istore (lv' := [(4, .int o28.1), (3, .int o27.1), (2, .int o26.1), (1, .int k0), (0, .ref q)]) hx hb dX11_readItem_67 hl (by decide) rfl (fun ls hl => ?_)
        refine lv_aload_n hx hb dX11_readItem_69 rfl (lv_at hl 4 rfl) ?_
        obtain ⟨o29, ho29, h⟩ := gm_bind_e h
        refine gm_callV (As := []) (rest := []) (n := 0) (ci := 11) (q0 := 0) C0 hH (mX11_sign l dC dI cI q q_text q_refused q_tongue q_fresh q_kept q_isKept q_said q_talk m_thrown m_size o28.2.1 o28.2.2.1 o28.2.2.2.1 o28.2.2.2.2.1 o28.2.2.2.2.2 m_allowed m_firstPair m_secondPair m_above m_below m_text    ho29) gX11_readItem_X11_sign rfl (by decide +kernel) ⟨rfl, rfl, Nat.le_of_ble_eq_true rfl, Nat.le_of_ble_eq_true rfl⟩ gm_T_ok (fun _ => trivial) [0, 2] rfl rfl rfl [0] rfl rfl rfl rfl hl.1 rfl (Nat.le_of_ble_eq_true rfl) dX11_readItem_70 ⟨Nat.zero_le _, Nat.zero_le _⟩ (fun H locs hH => ?_)
        have hH : gm_H (dC, dI) A s (wX11_readItem cI q q_fresh q_text q_refused q_tongue q_kept q_isKept q_said q_talk m_thrown m_size o29.1 o29.2.1 o29.2.2.1 o29.2.2.2.1 o29.2.2.2.2 m_allowed m_firstPair m_secondPair m_above m_below m_fresh m_text) H locs := hH
        refine lv_aload_n hx hb dX11_readItem_73 rfl (lv_at hl 4 rfl) ?_
        refine gm_get (ci := 11) C0 hH inX11_readItem_X11 0 12 5 rfl rfl (by decide) rfl rfl dX11_readItem_74 ?_
        refine lv_iconst (v := (-1)) hx hb dX11_readItem_77 (by decide) ?_
        refine lv_icmp_ne (tgt := 92) hx hb dX11_readItem_78 (by decide) (fun hc30 => ?_) (fun hc30 => ?_)
        · replace h := gm_neg hc30 h
          exact tX11_readItem_b92 C0  h hH (lv_sub hl [] rfl)
        · replace h := gm_pos hc30 h
          refine lv_aload_n hx hb dX11_readItem_81 rfl (lv_at hl 4 rfl) ?_
          refine gm_get (ci := 11) C0 hH inX11_readItem_X11 0 3 4 rfl rfl (by decide) rfl rfl dX11_readItem_82 ?_
          refine lv_iload_n hx hb dX11_readItem_85 rfl (lv_at hl 2 rfl) ?_
          refine lv_iload_n hx hb dX11_readItem_86 rfl (lv_at hl 1 rfl) ?_
          refine lv_iload hx hb dX11_readItem_87 (lv_at hl 0 rfl) ?_
          obtain ⟨o31, ho31, h⟩ := gm_bind_e h
          refine gm_callS (As := [.ref q_fresh, .int o26.1, .int o27.1, .int o28.1]) (rest := []) (n := 4) C0 hH (mX11_addWord l dC dI cI q_fresh m_fresh o26.1 o27.1 o28.1   ho31) gX11_readItem_X11_addWord rfl (by decide +kernel) ⟨rfl, rfl, Nat.le_of_ble_eq_true rfl, Nat.le_of_ble_eq_true rfl⟩ gm_T_ok (fun _ => trivial) [1] rfl rfl rfl [0] rfl rfl hl.1 rfl (Nat.le_of_ble_eq_true rfl) dX11_readItem_89 ⟨Nat.zero_le _, Nat.zero_le _⟩ (fun H locs hH => ?_)
          have hH : gm_H (dC, dI) A s (wX11_readItem cI q q_fresh q_text q_refused q_tongue q_kept q_isKept q_said q_talk m_thrown m_size o29.1 o29.2.1 o29.2.2.1 o29.2.2.2.1 o29.2.2.2.2 m_allowed m_firstPair m_secondPair m_above m_below o31 m_text) H locs := hH
          exact tX11_readItem_b92 C0  h hH (lv_sub hl [] rfl)
set_option maxRecDepth 100000 in
set_option maxHeartbeats 4000000 in
theorem mX11_readItem (l : Launch) (dC : Nat → ClassId) (dI : Nat → Nat → Nat) (cI : ClassId) (q q_fresh q_text q_refused q_tongue q_kept q_isKept q_said q_talk : Nat) (m_thrown : Int32) (m_size : Int32) (m_at : Int32) (m_start : Int32) (m_token : Int32) (m_value : Int64) (m_faultAt : Int32) (m_allowed : Int32) (m_firstPair : Int32) (m_secondPair : Int32) (m_above : Int64) (m_below : Int64) (m_fresh : Nat → Int32) (m_text : Nat → Int32)   {N : Nat} {out : Int32 × Int32 × Int32 × Int64 × Int32 × (Nat → Int32)} (h : fX11_readItem N m_size m_at m_start m_token m_value m_faultAt m_fresh m_text = some out) : gm_Met l yX11_readItem wsX11_readItem rX11_readItem (dC, dI) [(cI, .int)] gm_T [.ref q] (wX11_readItem cI q q_fresh q_text q_refused q_tongue q_kept q_isKept q_said q_talk m_thrown m_size m_at m_start m_token m_value m_faultAt m_allowed m_firstPair m_secondPair m_above m_below m_fresh m_text) none (wX11_readItem cI q q_fresh q_text q_refused q_tongue q_kept q_isKept q_said q_talk m_thrown m_size out.1 out.2.1 out.2.2.1 out.2.2.2.1 out.2.2.2.2.1 m_allowed m_firstPair m_secondPair m_above m_below out.2.2.2.2.2 m_text) := by
  refine gm_ofW (cc := cX11_readItem) (maxL := 5) (ret := none) (by decide +kernel) rfl (Nat.le_of_ble_eq_true rfl) ?_
  intro p e s m below meth c A C0 hH ls hl
  generalize ([.ref q] : List Value).toArray = args at C0 ⊢
  have hl : lv_has ls 5 [(0, .ref q)] := hl
  generalize s.heap = H at hH ⊢
  generalize ([] : List Loc) = locs at hH ⊢
  obtain ⟨hx, hb, hml, hr, hown, hts, hA, hK, hX, hlocks⟩ := id C0
  unfold fX11_readItem at h
  refine lv_aload_n hx hb dX11_readItem_0 rfl (lv_at hl 0 rfl) ?_
  refine gm_get (ci := 11) C0 hH inX11_readItem_X11 0 10 1 rfl rfl (by decide) rfl rfl dX11_readItem_1 ?_
  refine lv_iconst (v := 2) hx hb dX11_readItem_4 (by decide) ?_
  refine lv_icmp_ne (tgt := 12) hx hb dX11_readItem_5 (by decide) (fun hc1 => ?_) (fun hc1 => ?_)
  · replace h := gm_neg hc1 h
    refine lv_iconst (v := 0) hx hb dX11_readItem_12 (by decide) ?_
    exact tX11_readItem_b13 C0  h hH (lv_sub hl [0] rfl)
  · replace h := gm_pos hc1 h
    refine lv_iconst (v := 1) hx hb dX11_readItem_8 (by decide) ?_
    refine lv_goto (tgt := 13) hx hb dX11_readItem_9 (by decide) ?_
    exact tX11_readItem_b13 C0  h hH (lv_sub hl [0] rfl)
