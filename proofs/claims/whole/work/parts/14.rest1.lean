/-! X6_sortOf -/
abbrev rX6_sortOf : Room := { frames := 0, cells := 0, slots := 0, locals := 0 }
def fX6_sortOf_b28 (N : Nat)  (x0 : Int32) : Option (Int32) := (if x0 = 59 then some (3) else some (4))
def fX6_sortOf_b14 (N : Nat)  (x0 : Int32) : Option (Int32) := (if x0 < 48 then (fX6_sortOf_b28 N  x0) else (if 57 < x0 then (fX6_sortOf_b28 N  x0) else some (2)))
def fX6_sortOf (N : Nat)  (x0 : Int32) : Option (Int32) := (if x0 < 97 then (fX6_sortOf_b14 N  x0) else (if 122 < x0 then (fX6_sortOf_b14 N  x0) else some (1)))
set_option maxRecDepth 100000 in
set_option maxHeartbeats 4000000 in
theorem tX6_sortOf_b28 {p : Program} {l : Launch} {e : Env} {s : State} {m : MethodId} {args : Array Value} {below : List Frame} {meth : Method} {c : Code} {A : Nat → Prop} {dC : Nat → ClassId} {dI : Nat → Nat → Nat} {x0 : Int32} (C0 : gm_C p s m args meth c (dC, dI) [] A gm_T RX6 cX6_sortOf 1 (some .int) wsX6_sortOf) {N : Nat} {out : Int32}    {H : Heap} {locs : List Loc} {ls : Array Slot} (h : fX6_sortOf_b28 N  x0 = some out) (hH : gm_H (dC, dI) A s ([] : va_W) H locs) (hl : lv_has ls 1 [(0, .int x0)]) : W p l e rX6_sortOf s m args below meth c H locs 0 0 (MQ below (gm_Q (dC, dI) [] A (some (.int out)) ([] : va_W)) args s 0 0 A) (F0 m 28 ls []) := by
  obtain ⟨hx, hb, hml, hr, hown, hts, hA, hK, hX, hlocks⟩ := id C0
  unfold fX6_sortOf_b28 at h
  refine lv_iload_n hx hb dX6_sortOf_28 rfl (lv_at hl 0 rfl) ?_
  refine lv_bipush (v := 59) hx hb dX6_sortOf_29 (by decide) ?_
  refine lv_icmp_ne (tgt := 38) hx hb dX6_sortOf_31 (by decide) (fun hc3 => ?_) (fun hc3 => ?_)
  · replace h := gm_neg hc3 h
    refine lv_iconst (v := 4) hx hb dX6_sortOf_38 (by decide) ?_
    obtain rfl := Option.some.inj h
    exact gm_iret C0 hH dX6_sortOf_39
  · replace h := gm_pos hc3 h
    refine lv_iconst (v := 3) hx hb dX6_sortOf_34 (by decide) ?_
    refine lv_goto (tgt := 39) hx hb dX6_sortOf_35 (by decide) ?_
    obtain rfl := Option.some.inj h
    exact gm_iret C0 hH dX6_sortOf_39
set_option maxRecDepth 100000 in
set_option maxHeartbeats 4000000 in
theorem tX6_sortOf_b14 {p : Program} {l : Launch} {e : Env} {s : State} {m : MethodId} {args : Array Value} {below : List Frame} {meth : Method} {c : Code} {A : Nat → Prop} {dC : Nat → ClassId} {dI : Nat → Nat → Nat} {x0 : Int32} (C0 : gm_C p s m args meth c (dC, dI) [] A gm_T RX6 cX6_sortOf 1 (some .int) wsX6_sortOf) {N : Nat} {out : Int32}    {H : Heap} {locs : List Loc} {ls : Array Slot} (h : fX6_sortOf_b14 N  x0 = some out) (hH : gm_H (dC, dI) A s ([] : va_W) H locs) (hl : lv_has ls 1 [(0, .int x0)]) : W p l e rX6_sortOf s m args below meth c H locs 0 0 (MQ below (gm_Q (dC, dI) [] A (some (.int out)) ([] : va_W)) args s 0 0 A) (F0 m 14 ls []) := by
  obtain ⟨hx, hb, hml, hr, hown, hts, hA, hK, hX, hlocks⟩ := id C0
  unfold fX6_sortOf_b14 at h
  refine lv_iload_n hx hb dX6_sortOf_14 rfl (lv_at hl 0 rfl) ?_
  refine lv_bipush (v := 48) hx hb dX6_sortOf_15 (by decide) ?_
  refine lv_icmp_lt (tgt := 28) hx hb dX6_sortOf_17 (by decide) (fun hc2 => ?_) (fun hc2 => ?_)
  · replace h := gm_pos hc2 h
    exact tX6_sortOf_b28 C0  h hH (lv_sub hl [0] rfl)
  · replace h := gm_neg hc2 h
    refine lv_iload_n hx hb dX6_sortOf_20 rfl (lv_at hl 0 rfl) ?_
    refine lv_bipush (v := 57) hx hb dX6_sortOf_21 (by decide) ?_
    refine lv_icmp_gt (tgt := 28) hx hb dX6_sortOf_23 (by decide) (fun hc4 => ?_) (fun hc4 => ?_)
    · replace h := gm_pos hc4 h
      exact tX6_sortOf_b28 C0  h hH (lv_sub hl [0] rfl)
    · replace h := gm_neg hc4 h
      refine lv_iconst (v := 2) hx hb dX6_sortOf_26 (by decide) ?_
      obtain rfl := Option.some.inj h
      exact gm_iret C0 hH dX6_sortOf_27
set_option maxRecDepth 100000 in
set_option maxHeartbeats 4000000 in
theorem mX6_sortOf (l : Launch) (dC : Nat → ClassId) (dI : Nat → Nat → Nat)  (x0 : Int32)  {N : Nat} {out : Int32} (h : fX6_sortOf N x0 = some out) : gm_Met l yX6_sortOf wsX6_sortOf rX6_sortOf (dC, dI) [] gm_T [.int x0] ([] : va_W) (some (.int out)) ([] : va_W) := by
  refine gm_ofW (cc := cX6_sortOf) (maxL := 1) (ret := (some .int)) (by decide +kernel) rfl (Nat.le_of_ble_eq_true rfl) ?_
  intro p e s m below meth c A C0 hH ls hl
  generalize ([.int x0] : List Value).toArray = args at C0 ⊢
  have hl : lv_has ls 1 [(0, .int x0)] := hl
  generalize s.heap = H at hH ⊢
  generalize ([] : List Loc) = locs at hH ⊢
  obtain ⟨hx, hb, hml, hr, hown, hts, hA, hK, hX, hlocks⟩ := id C0
  unfold fX6_sortOf at h
  refine lv_iload_n hx hb dX6_sortOf_0 rfl (lv_at hl 0 rfl) ?_
  refine lv_bipush (v := 97) hx hb dX6_sortOf_1 (by decide) ?_
  refine lv_icmp_lt (tgt := 14) hx hb dX6_sortOf_3 (by decide) (fun hc1 => ?_) (fun hc1 => ?_)
  · replace h := gm_pos hc1 h
    exact tX6_sortOf_b14 C0  h hH (lv_sub hl [0] rfl)
  · replace h := gm_neg hc1 h
    refine lv_iload_n hx hb dX6_sortOf_6 rfl (lv_at hl 0 rfl) ?_
    refine lv_bipush (v := 122) hx hb dX6_sortOf_7 (by decide) ?_
    refine lv_icmp_gt (tgt := 14) hx hb dX6_sortOf_9 (by decide) (fun hc5 => ?_) (fun hc5 => ?_)
    · replace h := gm_pos hc5 h
      exact tX6_sortOf_b14 C0  h hH (lv_sub hl [0] rfl)
    · replace h := gm_neg hc5 h
      refine lv_iconst (v := 1) hx hb dX6_sortOf_12 (by decide) ?_
      obtain rfl := Option.some.inj h
      exact gm_iret C0 hH dX6_sortOf_13

/-! X6_settleNumber -/
abbrev wX6_settleNumber (cI : ClassId) (q q_bytes : Nat) (m_length : Int32) (m_items : Int32) (m_place : Int32) (m_start : Int32) (m_token : Int32) (m_number : Int32) (m_bytes : Nat → Int32) : va_W := [(q, .inr (6, [.ref q_bytes, .int m_length, .int m_items, .int m_place, .int m_start, .int m_token, .int m_number])), (q_bytes, .inl (cI, 150, .inl m_bytes))]
abbrev rX6_settleNumber : Room := { frames := 0, cells := 0, slots := 0, locals := 0 }
def fX6_settleNumber_b28_body (N : Nat)  (m_place : Int32) (m_start : Int32) (m_token : Int32) (m_bytes : Nat → Int32) (r28 : Int32 → Int32 → Option (Int32 × Int32)) (m_number : Int32) (x1 : Int32) : Option (Int32 × Int32) := (if m_place ≤ x1 then some (m_token, m_number) else (if (m_start + 2) ≤ x1 then some (m_token, m_number) else gm_chk x1 150 (gm_let ((((m_number * 10) + (m_bytes (Int32.toNatClampNeg x1))) - 48) : Int32) (fun (v5 : Int32) => (r28 v5 ((x1 + 1)))))))
def fX6_settleNumber_b28 (N : Nat)  (m_place : Int32) (m_start : Int32) (m_token : Int32) (m_bytes : Nat → Int32) (m_number : Int32) (x1 : Int32) : Option (Int32 × Int32) := gm_fix (fX6_settleNumber_b28_body N  m_place m_start m_token m_bytes) (fun _ _ => none) N m_number x1
def fX6_settleNumber_b18 (N : Nat)  (m_place : Int32) (m_start : Int32) (m_token : Int32) (m_number : Int32) (m_bytes : Nat → Int32) : Option (Int32 × Int32) := (fX6_settleNumber_b28 N  m_place m_start m_token m_bytes 0 m_start)
def fX6_settleNumber (N : Nat) (m_place : Int32) (m_start : Int32) (m_token : Int32) (m_number : Int32) (m_bytes : Nat → Int32)  : Option (Int32 × Int32) := (if (m_place - m_start) ≤ 2 then (fX6_settleNumber_b18 N  m_place m_start m_token m_number m_bytes) else (fX6_settleNumber_b18 N  m_place m_start 4 m_number m_bytes))
set_option maxRecDepth 20000 in
theorem inX6_settleNumber_X6 : ∀ w ∈ u_ws RX6 TX6 7, w ∈ wsX6_settleNumber := fun w h => by
  obtain ⟨k, hk, rfl⟩ := List.mem_map.mp h
  have hk2 := List.mem_range.mp hk
  exact List.mem_of_getElem? (i := 6 + k) (by rcases (show k = 0 ∨ k = 1 ∨ k = 2 ∨ k = 3 ∨ k = 4 ∨ k = 5 ∨ k = 6 by omega) with rfl | rfl | rfl | rfl | rfl | rfl | rfl <;> rfl)
set_option maxRecDepth 100000 in
set_option maxHeartbeats 4000000 in
theorem tX6_settleNumber_b28 {p : Program} {l : Launch} {e : Env} {s : State} {m : MethodId} {args : Array Value} {below : List Frame} {meth : Method} {c : Code} {A : Nat → Prop} {dC : Nat → ClassId} {dI : Nat → Nat → Nat} {cI : ClassId} {q q_bytes : Nat} {m_length : Int32} {m_items : Int32} {m_place : Int32} {m_start : Int32} {m_token : Int32} {m_bytes : Nat → Int32} (C0 : gm_C p s m args meth c (dC, dI) [(cI, .int)] A gm_T RX6 cX6_settleNumber 2 none wsX6_settleNumber) {N : Nat} {out : Int32 × Int32}   : ∀ (n : Nat), ∀ (m_number : Int32) (x1 : Int32) (H : Heap) (locs : List Loc) (ls : Array Slot), (gm_fix (fX6_settleNumber_b28_body N  m_place m_start m_token m_bytes) (fun _ _ => none) n) m_number x1 = some out → gm_H (dC, dI) A s (wX6_settleNumber cI q q_bytes m_length m_items m_place m_start m_token m_number m_bytes) H locs → lv_has ls 2 [(0, .ref q), (1, .int x1)] → W p l e rX6_settleNumber s m args below meth c H locs 0 0 (MQ below (gm_Q (dC, dI) [(cI, .int)] A none (wX6_settleNumber cI q q_bytes m_length m_items m_place m_start out.1 out.2 m_bytes)) args s 0 0 A) (F0 m 28 ls []) := by
  obtain ⟨hx, hb, hml, hr, hown, hts, hA, hK, hX, hlocks⟩ := id C0
  intro n
  induction n with
  | zero =>
    intro m_number x1 H locs ls h hH hl
    cases h
  | succ n hr28 =>
    intro m_number x1 H locs ls h hH hl
    rw [gm_fix_s] at h
    unfold fX6_settleNumber_b28_body at h
    refine lv_iload_n hx hb dX6_settleNumber_28 rfl (lv_at hl 1 rfl) ?_
    refine lv_aload_n hx hb dX6_settleNumber_29 rfl (lv_at hl 0 rfl) ?_
    refine gm_get (ci := 6) C0 hH inX6_settleNumber_X6 0 3 1 rfl rfl (by decide) rfl rfl dX6_settleNumber_30 ?_
    refine lv_icmp_ge (tgt := 73) hx hb dX6_settleNumber_33 (by decide) (fun hc2 => ?_) (fun hc2 => ?_)
    · replace h := gm_pos hc2 h
      obtain rfl := Option.some.inj h
      exact gm_vret C0 hH dX6_settleNumber_73
    · replace h := gm_neg hc2 h
      refine lv_iload_n hx hb dX6_settleNumber_36 rfl (lv_at hl 1 rfl) ?_
      refine lv_aload_n hx hb dX6_settleNumber_37 rfl (lv_at hl 0 rfl) ?_
      refine gm_get (ci := 6) C0 hH inX6_settleNumber_X6 0 4 2 rfl rfl (by decide) rfl rfl dX6_settleNumber_38 ?_
      refine lv_iconst (v := 2) hx hb dX6_settleNumber_41 (by decide) ?_
      refine lv_iadd hx hb dX6_settleNumber_42 ?_
      refine lv_icmp_ge (tgt := 73) hx hb dX6_settleNumber_43 (by decide) (fun hc3 => ?_) (fun hc3 => ?_)
      · replace h := gm_pos hc3 h
        obtain rfl := Option.some.inj h
        exact gm_vret C0 hH dX6_settleNumber_73
      · replace h := gm_neg hc3 h
        refine lv_aload_n hx hb dX6_settleNumber_46 rfl (lv_at hl 0 rfl) ?_
        refine lv_aload_n hx hb dX6_settleNumber_47 rfl (lv_at hl 0 rfl) ?_
        refine gm_get (ci := 6) C0 hH inX6_settleNumber_X6 0 6 4 rfl rfl (by decide) rfl rfl dX6_settleNumber_48 ?_
        refine lv_bipush (v := 10) hx hb dX6_settleNumber_51 (by decide) ?_
        refine lv_imul hx hb dX6_settleNumber_53 ?_
        refine lv_aload_n hx hb dX6_settleNumber_54 rfl (lv_at hl 0 rfl) ?_
        refine gm_get (ci := 6) C0 hH inX6_settleNumber_X6 0 0 5 rfl rfl (by decide) rfl rfl dX6_settleNumber_55 ?_
        refine lv_iload_n hx hb dX6_settleNumber_58 rfl (lv_at hl 1 rfl) ?_
        obtain ⟨hi4, h⟩ := gm_chk_e h
        refine gm_iald C0 hH hi4 1 0 rfl rfl dX6_settleNumber_59 ?_
        refine lv_iadd hx hb dX6_settleNumber_60 ?_
        refine lv_bipush (v := 48) hx hb dX6_settleNumber_61 (by decide) ?_
        refine lv_isub hx hb dX6_settleNumber_63 ?_
        refine lv_topi (fun v5 ev5 => ?_)
        replace h := gm_let_e ev5 h
        refine gm_putf (ci := 6) C0 hH inX6_settleNumber_X6 tyX6_ok nmX6 0 6 4 rfl rfl (by decide) rfl rfl rfl rfl rfl (Nat.le_of_ble_eq_true rfl) dX6_settleNumber_64 (fun H locs hH => ?_)
        have hH : gm_H (dC, dI) A s (wX6_settleNumber cI q q_bytes m_length m_items m_place m_start m_token v5 m_bytes) H locs := hH
        refine lv_iinc (v := (x1 + 1)) (lv' := [(1, .int (x1 + 1)), (0, .ref q)]) hx hb dX6_settleNumber_67 hl (k := 1) rfl rfl (by decide) rfl (fun ls hl => ?_)
        refine lv_goto (tgt := 28) hx hb dX6_settleNumber_70 (by decide) ?_
        exact hr28 _ _ _ _ _ h hH (lv_sub hl [1, 0] rfl)
set_option maxRecDepth 100000 in
set_option maxHeartbeats 4000000 in
theorem tX6_settleNumber_b18 {p : Program} {l : Launch} {e : Env} {s : State} {m : MethodId} {args : Array Value} {below : List Frame} {meth : Method} {c : Code} {A : Nat → Prop} {dC : Nat → ClassId} {dI : Nat → Nat → Nat} {cI : ClassId} {q q_bytes : Nat} {m_length : Int32} {m_items : Int32} {m_place : Int32} {m_start : Int32} {m_token : Int32} {m_number : Int32} {m_bytes : Nat → Int32} (C0 : gm_C p s m args meth c (dC, dI) [(cI, .int)] A gm_T RX6 cX6_settleNumber 2 none wsX6_settleNumber) {N : Nat} {out : Int32 × Int32}    {H : Heap} {locs : List Loc} {ls : Array Slot} (h : fX6_settleNumber_b18 N  m_place m_start m_token m_number m_bytes = some out) (hH : gm_H (dC, dI) A s (wX6_settleNumber cI q q_bytes m_length m_items m_place m_start m_token m_number m_bytes) H locs) (hl : lv_has ls 2 [(0, .ref q)]) : W p l e rX6_settleNumber s m args below meth c H locs 0 0 (MQ below (gm_Q (dC, dI) [(cI, .int)] A none (wX6_settleNumber cI q q_bytes m_length m_items m_place m_start out.1 out.2 m_bytes)) args s 0 0 A) (F0 m 18 ls []) := by
  obtain ⟨hx, hb, hml, hr, hown, hts, hA, hK, hX, hlocks⟩ := id C0
  unfold fX6_settleNumber_b18 at h
  refine lv_aload_n hx hb dX6_settleNumber_18 rfl (lv_at hl 0 rfl) ?_
  refine lv_iconst (v := 0) hx hb dX6_settleNumber_19 (by decide) ?_
  refine gm_putf (ci := 6) C0 hH inX6_settleNumber_X6 tyX6_ok nmX6 0 6 4 rfl rfl (by decide) rfl rfl rfl rfl rfl (Nat.le_of_ble_eq_true rfl) dX6_settleNumber_20 (fun H locs hH => ?_)
  have hH : gm_H (dC, dI) A s (wX6_settleNumber cI q q_bytes m_length m_items m_place m_start m_token 0 m_bytes) H locs := hH
  refine lv_aload_n hx hb dX6_settleNumber_23 rfl (lv_at hl 0 rfl) ?_
  refine gm_get (ci := 6) C0 hH inX6_settleNumber_X6 0 4 2 rfl rfl (by decide) rfl rfl dX6_settleNumber_24 ?_
  refine lv_istore_n (lv' := [(1, .int m_start), (0, .ref q)]) hx hb dX6_settleNumber_27 rfl hl (by decide) rfl (fun ls hl => ?_)
  unfold fX6_settleNumber_b28 at h
  exact tX6_settleNumber_b28 C0  _ _ _ _ _ _ h hH (lv_sub hl [1, 0] rfl)
set_option maxRecDepth 100000 in
set_option maxHeartbeats 4000000 in
theorem mX6_settleNumber (l : Launch) (dC : Nat → ClassId) (dI : Nat → Nat → Nat) (cI : ClassId) (q q_bytes : Nat) (m_length : Int32) (m_items : Int32) (m_place : Int32) (m_start : Int32) (m_token : Int32) (m_number : Int32) (m_bytes : Nat → Int32)   {N : Nat} {out : Int32 × Int32} (h : fX6_settleNumber N m_place m_start m_token m_number m_bytes = some out) : gm_Met l yX6_settleNumber wsX6_settleNumber rX6_settleNumber (dC, dI) [(cI, .int)] gm_T [.ref q] (wX6_settleNumber cI q q_bytes m_length m_items m_place m_start m_token m_number m_bytes) none (wX6_settleNumber cI q q_bytes m_length m_items m_place m_start out.1 out.2 m_bytes) := by
  refine gm_ofW (cc := cX6_settleNumber) (maxL := 2) (ret := none) (by decide +kernel) rfl (Nat.le_of_ble_eq_true rfl) ?_
  intro p e s m below meth c A C0 hH ls hl
  generalize ([.ref q] : List Value).toArray = args at C0 ⊢
  have hl : lv_has ls 2 [(0, .ref q)] := hl
  generalize s.heap = H at hH ⊢
  generalize ([] : List Loc) = locs at hH ⊢
  obtain ⟨hx, hb, hml, hr, hown, hts, hA, hK, hX, hlocks⟩ := id C0
  unfold fX6_settleNumber at h
  refine lv_aload_n hx hb dX6_settleNumber_0 rfl (lv_at hl 0 rfl) ?_
  refine gm_get (ci := 6) C0 hH inX6_settleNumber_X6 0 3 1 rfl rfl (by decide) rfl rfl dX6_settleNumber_1 ?_
  refine lv_aload_n hx hb dX6_settleNumber_4 rfl (lv_at hl 0 rfl) ?_
  refine gm_get (ci := 6) C0 hH inX6_settleNumber_X6 0 4 2 rfl rfl (by decide) rfl rfl dX6_settleNumber_5 ?_
  refine lv_isub hx hb dX6_settleNumber_8 ?_
  refine lv_iconst (v := 2) hx hb dX6_settleNumber_9 (by decide) ?_
  refine lv_icmp_le (tgt := 18) hx hb dX6_settleNumber_10 (by decide) (fun hc1 => ?_) (fun hc1 => ?_)
  · replace h := gm_pos hc1 h
    exact tX6_settleNumber_b18 C0  h hH (lv_sub hl [0] rfl)
  · replace h := gm_neg hc1 h
    refine lv_aload_n hx hb dX6_settleNumber_13 rfl (lv_at hl 0 rfl) ?_
    refine lv_iconst (v := 4) hx hb dX6_settleNumber_14 (by decide) ?_
    refine gm_putf (ci := 6) C0 hH inX6_settleNumber_X6 tyX6_ok nmX6 0 5 3 rfl rfl (by decide) rfl rfl rfl rfl rfl (Nat.le_of_ble_eq_true rfl) dX6_settleNumber_15 (fun H locs hH => ?_)
    have hH : gm_H (dC, dI) A s (wX6_settleNumber cI q q_bytes m_length m_items m_place m_start 4 m_number m_bytes) H locs := hH
    exact tX6_settleNumber_b18 C0  h hH (lv_sub hl [0] rfl)

/-! X6_take -/
abbrev wX6_take (cI : ClassId) (q q_bytes : Nat) (m_length : Int32) (m_items : Int32) (m_place : Int32) (m_start : Int32) (m_token : Int32) (m_number : Int32) (m_bytes : Nat → Int32) : va_W := [(q, .inr (6, [.ref q_bytes, .int m_length, .int m_items, .int m_place, .int m_start, .int m_token, .int m_number])), (q_bytes, .inl (cI, 150, .inl m_bytes))]
abbrev rX6_take : Room := { frames := 1, cells := 0, slots := 0, locals := 21 }
def fX6_take_b156 (N : Nat)  (m_place : Int32) (m_start : Int32) (m_token : Int32) (m_number : Int32) (m_bytes : Nat → Int32) : Option (Int32 × Int32 × Int32 × Int32) := (if m_token = 2 then gm_bind (fX6_settleNumber N m_place m_start m_token m_number m_bytes) (fun o6 => some (m_place, m_start, o6.1, o6.2)) else some (m_place, m_start, m_token, m_number))
def fX6_take_b93 (N : Nat)  (m_place : Int32) (m_start : Int32) (m_token : Int32) (m_number : Int32) (m_bytes : Nat → Int32) : Option (Int32 × Int32 × Int32 × Int32) := gm_let ((m_place + 1) : Int32) (fun (v4 : Int32) => (fX6_take_b156 N  v4 m_start m_token m_number m_bytes))
def fX6_take_b113_body (N : Nat)  (m_length : Int32) (m_start : Int32) (m_token : Int32) (m_number : Int32) (m_bytes : Nat → Int32) (r113 : Int32 → Option (Int32 × Int32 × Int32 × Int32)) (m_place : Int32) : Option (Int32 × Int32 × Int32 × Int32) := (if m_length ≤ m_place then (fX6_take_b156 N  m_place m_start m_token m_number m_bytes) else gm_chk m_place 150 (gm_bind (fX6_sortOf N ((m_bytes (Int32.toNatClampNeg m_place)))) (fun o11 => (if o11 = m_token then gm_let ((m_place + 1) : Int32) (fun (v13 : Int32) => (r113 v13)) else (fX6_take_b156 N  m_place m_start m_token m_number m_bytes)))))
def fX6_take_b113 (N : Nat)  (m_length : Int32) (m_start : Int32) (m_token : Int32) (m_number : Int32) (m_bytes : Nat → Int32) (m_place : Int32) : Option (Int32 × Int32 × Int32 × Int32) := gm_fix (fX6_take_b113_body N  m_length m_start m_token m_number m_bytes) (fun _ => none) N m_place
def fX6_take_b74 (N : Nat)  (m_length : Int32) (m_place : Int32) (m_start : Int32) (m_token : Int32) (m_number : Int32) (m_bytes : Nat → Int32) (k1 : Int32) : Option (Int32 × Int32 × Int32 × Int32) := (if k1 = 3 then (fX6_take_b93 N  m_place m_start k1 m_number m_bytes) else (if k1 = 4 then (fX6_take_b93 N  m_place m_start k1 m_number m_bytes) else (if k1 = 0 then (fX6_take_b156 N  m_place m_start k1 m_number m_bytes) else (fX6_take_b113 N  m_length m_start k1 m_number m_bytes m_place))))
def fX6_take_b38 (N : Nat)  (m_length : Int32) (m_place : Int32) (m_start : Int32) (m_token : Int32) (m_number : Int32) (m_bytes : Nat → Int32) : Option (Int32 × Int32 × Int32 × Int32) := (if m_length ≤ m_place then (fX6_take_b74 N  m_length m_place m_place m_token m_number m_bytes 0) else gm_chk m_place 150 (gm_bind (fX6_sortOf N ((m_bytes (Int32.toNatClampNeg m_place)))) (fun o15 => (fX6_take_b74 N  m_length m_place m_place m_token m_number m_bytes o15))))
def fX6_take_b0_body (N : Nat)  (m_length : Int32) (m_start : Int32) (m_token : Int32) (m_number : Int32) (m_bytes : Nat → Int32) (r0 : Int32 → Option (Int32 × Int32 × Int32 × Int32)) (m_place : Int32) : Option (Int32 × Int32 × Int32 × Int32) := (if m_length ≤ m_place then (fX6_take_b38 N  m_length m_place m_start m_token m_number m_bytes) else gm_chk m_place 150 ((if (m_bytes (Int32.toNatClampNeg m_place)) = 32 then gm_let ((m_place + 1) : Int32) (fun (v18 : Int32) => (r0 v18)) else (fX6_take_b38 N  m_length m_place m_start m_token m_number m_bytes))))
def fX6_take_b0 (N : Nat)  (m_length : Int32) (m_start : Int32) (m_token : Int32) (m_number : Int32) (m_bytes : Nat → Int32) (m_place : Int32) : Option (Int32 × Int32 × Int32 × Int32) := gm_fix (fX6_take_b0_body N  m_length m_start m_token m_number m_bytes) (fun _ => none) N m_place
def fX6_take (N : Nat) (m_length : Int32) (m_place : Int32) (m_start : Int32) (m_token : Int32) (m_number : Int32) (m_bytes : Nat → Int32)  : Option (Int32 × Int32 × Int32 × Int32) := (fX6_take_b0 N  m_length m_start m_token m_number m_bytes m_place)
set_option maxRecDepth 20000 in
theorem inX6_take_X6 : ∀ w ∈ u_ws RX6 TX6 7, w ∈ wsX6_take := fun w h => by
  obtain ⟨k, hk, rfl⟩ := List.mem_map.mp h
  have hk2 := List.mem_range.mp hk
  exact List.mem_of_getElem? (i := 15 + k) (by rcases (show k = 0 ∨ k = 1 ∨ k = 2 ∨ k = 3 ∨ k = 4 ∨ k = 5 ∨ k = 6 by omega) with rfl | rfl | rfl | rfl | rfl | rfl | rfl <;> rfl)
set_option maxRecDepth 100000 in
set_option maxHeartbeats 4000000 in
theorem tX6_take_b156 {p : Program} {l : Launch} {e : Env} {s : State} {m : MethodId} {args : Array Value} {below : List Frame} {meth : Method} {c : Code} {A : Nat → Prop} {dC : Nat → ClassId} {dI : Nat → Nat → Nat} {cI : ClassId} {q q_bytes : Nat} {m_length : Int32} {m_items : Int32} {m_place : Int32} {m_start : Int32} {m_token : Int32} {m_number : Int32} {m_bytes : Nat → Int32} (C0 : gm_C p s m args meth c (dC, dI) [(cI, .int)] A gm_T RX6 cX6_take 1 none wsX6_take) {N : Nat} {out : Int32 × Int32 × Int32 × Int32}    {H : Heap} {locs : List Loc} {ls : Array Slot} (h : fX6_take_b156 N  m_place m_start m_token m_number m_bytes = some out) (hH : gm_H (dC, dI) A s (wX6_take cI q q_bytes m_length m_items m_place m_start m_token m_number m_bytes) H locs) (hl : lv_has ls 1 [(0, .ref q)]) : W p l e rX6_take s m args below meth c H locs 0 0 (MQ below (gm_Q (dC, dI) [(cI, .int)] A none (wX6_take cI q q_bytes m_length m_items out.1 out.2.1 out.2.2.1 out.2.2.2 m_bytes)) args s 0 0 A) (F0 m 156 ls []) := by
  obtain ⟨hx, hb, hml, hr, hown, hts, hA, hK, hX, hlocks⟩ := id C0
  unfold fX6_take_b156 at h
  refine lv_aload_n hx hb dX6_take_156 rfl (lv_at hl 0 rfl) ?_
  refine gm_get (ci := 6) C0 hH inX6_take_X6 0 5 5 rfl rfl (by decide) rfl rfl dX6_take_157 ?_
  refine lv_iconst (v := 2) hx hb dX6_take_160 (by decide) ?_
  refine lv_icmp_ne (tgt := 168) hx hb dX6_take_161 (by decide) (fun hc5 => ?_) (fun hc5 => ?_)
  · replace h := gm_neg hc5 h
    obtain rfl := Option.some.inj h
    exact gm_vret C0 hH dX6_take_168
  · replace h := gm_pos hc5 h
    refine lv_aload_n hx hb dX6_take_164 rfl (lv_at hl 0 rfl) ?_
    obtain ⟨o6, ho6, h⟩ := gm_bind_e h
    refine gm_callV (As := []) (rest := []) (n := 0) (ci := 6) (q0 := 0) C0 hH (mX6_settleNumber l dC dI cI q q_bytes m_length m_items m_place m_start m_token m_number m_bytes    ho6) gX6_take_X6_settleNumber rfl (by decide +kernel) ⟨rfl, rfl, Nat.le_of_ble_eq_true rfl, Nat.le_of_ble_eq_true rfl⟩ gm_T_ok (fun _ => trivial) [0, 1] rfl rfl rfl [0] rfl rfl rfl rfl hl.1 rfl (Nat.le_of_ble_eq_true rfl) dX6_take_165 ⟨Nat.zero_le _, Nat.zero_le _⟩ (fun H locs hH => ?_)
    have hH : gm_H (dC, dI) A s (wX6_take cI q q_bytes m_length m_items m_place m_start o6.1 o6.2 m_bytes) H locs := hH
    obtain rfl := Option.some.inj h
    exact gm_vret C0 hH dX6_take_168
set_option maxRecDepth 100000 in
set_option maxHeartbeats 4000000 in
theorem tX6_take_b93 {p : Program} {l : Launch} {e : Env} {s : State} {m : MethodId} {args : Array Value} {below : List Frame} {meth : Method} {c : Code} {A : Nat → Prop} {dC : Nat → ClassId} {dI : Nat → Nat → Nat} {cI : ClassId} {q q_bytes : Nat} {m_length : Int32} {m_items : Int32} {m_place : Int32} {m_start : Int32} {m_token : Int32} {m_number : Int32} {m_bytes : Nat → Int32} (C0 : gm_C p s m args meth c (dC, dI) [(cI, .int)] A gm_T RX6 cX6_take 1 none wsX6_take) {N : Nat} {out : Int32 × Int32 × Int32 × Int32}    {H : Heap} {locs : List Loc} {ls : Array Slot} (h : fX6_take_b93 N  m_place m_start m_token m_number m_bytes = some out) (hH : gm_H (dC, dI) A s (wX6_take cI q q_bytes m_length m_items m_place m_start m_token m_number m_bytes) H locs) (hl : lv_has ls 1 [(0, .ref q)]) : W p l e rX6_take s m args below meth c H locs 0 0 (MQ below (gm_Q (dC, dI) [(cI, .int)] A none (wX6_take cI q q_bytes m_length m_items out.1 out.2.1 out.2.2.1 out.2.2.2 m_bytes)) args s 0 0 A) (F0 m 93 ls []) := by
  obtain ⟨hx, hb, hml, hr, hown, hts, hA, hK, hX, hlocks⟩ := id C0
  unfold fX6_take_b93 at h
  refine lv_aload_n hx hb dX6_take_93 rfl (lv_at hl 0 rfl) ?_
  refine lv_dup hx hb dX6_take_94 rfl ?_
  refine gm_get (ci := 6) C0 hH inX6_take_X6 0 3 1 rfl rfl (by decide) rfl rfl dX6_take_95 ?_
  refine lv_iconst (v := 1) hx hb dX6_take_98 (by decide) ?_
  refine lv_iadd hx hb dX6_take_99 ?_
  refine lv_topi (fun v4 ev4 => ?_)
  replace h := gm_let_e ev4 h
  refine gm_putf (ci := 6) C0 hH inX6_take_X6 tyX6_ok nmX6 0 3 1 rfl rfl (by decide) rfl rfl rfl rfl rfl (Nat.le_of_ble_eq_true rfl) dX6_take_100 (fun H locs hH => ?_)
  have hH : gm_H (dC, dI) A s (wX6_take cI q q_bytes m_length m_items v4 m_start m_token m_number m_bytes) H locs := hH
  refine lv_goto (tgt := 156) hx hb dX6_take_103 (by decide) ?_
  exact tX6_take_b156 C0  h hH (lv_sub hl [0] rfl)
set_option maxRecDepth 100000 in
set_option maxHeartbeats 4000000 in
theorem tX6_take_b113 {p : Program} {l : Launch} {e : Env} {s : State} {m : MethodId} {args : Array Value} {below : List Frame} {meth : Method} {c : Code} {A : Nat → Prop} {dC : Nat → ClassId} {dI : Nat → Nat → Nat} {cI : ClassId} {q q_bytes : Nat} {m_length : Int32} {m_items : Int32} {m_start : Int32} {m_token : Int32} {m_number : Int32} {m_bytes : Nat → Int32} (C0 : gm_C p s m args meth c (dC, dI) [(cI, .int)] A gm_T RX6 cX6_take 1 none wsX6_take) {N : Nat} {out : Int32 × Int32 × Int32 × Int32}   : ∀ (n : Nat), ∀ (m_place : Int32) (H : Heap) (locs : List Loc) (ls : Array Slot), (gm_fix (fX6_take_b113_body N  m_length m_start m_token m_number m_bytes) (fun _ => none) n) m_place = some out → gm_H (dC, dI) A s (wX6_take cI q q_bytes m_length m_items m_place m_start m_token m_number m_bytes) H locs → lv_has ls 1 [(0, .ref q)] → W p l e rX6_take s m args below meth c H locs 0 0 (MQ below (gm_Q (dC, dI) [(cI, .int)] A none (wX6_take cI q q_bytes m_length m_items out.1 out.2.1 out.2.2.1 out.2.2.2 m_bytes)) args s 0 0 A) (F0 m 113 ls []) := by
  obtain ⟨hx, hb, hml, hr, hown, hts, hA, hK, hX, hlocks⟩ := id C0
  intro n
  induction n with
  | zero =>
    intro m_place H locs ls h hH hl
    cases h
  | succ n hr113 =>
    intro m_place H locs ls h hH hl
    rw [gm_fix_s] at h
    unfold fX6_take_b113_body at h
    refine lv_aload_n hx hb dX6_take_113 rfl (lv_at hl 0 rfl) ?_
    refine gm_get (ci := 6) C0 hH inX6_take_X6 0 3 1 rfl rfl (by decide) rfl rfl dX6_take_114 ?_
    refine lv_aload_n hx hb dX6_take_117 rfl (lv_at hl 0 rfl) ?_
    refine gm_get (ci := 6) C0 hH inX6_take_X6 0 1 2 rfl rfl (by decide) rfl rfl dX6_take_118 ?_
    refine lv_icmp_ge (tgt := 156) hx hb dX6_take_121 (by decide) (fun hc9 => ?_) (fun hc9 => ?_)
    · replace h := gm_pos hc9 h
      exact tX6_take_b156 C0  h hH (lv_sub hl [0] rfl)
    · replace h := gm_neg hc9 h
      refine lv_aload_n hx hb dX6_take_124 rfl (lv_at hl 0 rfl) ?_
      refine gm_get (ci := 6) C0 hH inX6_take_X6 0 0 3 rfl rfl (by decide) rfl rfl dX6_take_125 ?_
      refine lv_aload_n hx hb dX6_take_128 rfl (lv_at hl 0 rfl) ?_
      refine gm_get (ci := 6) C0 hH inX6_take_X6 0 3 1 rfl rfl (by decide) rfl rfl dX6_take_129 ?_
      obtain ⟨hi10, h⟩ := gm_chk_e h
      refine gm_iald C0 hH hi10 1 0 rfl rfl dX6_take_132 ?_
      obtain ⟨o11, ho11, h⟩ := gm_bind_e h
      refine gm_callS (As := [.int (m_bytes (Int32.toNatClampNeg m_place))]) (rest := []) (n := 1) C0 hH (mX6_sortOf l dC dI    ((m_bytes (Int32.toNatClampNeg m_place)))   ho11) gX6_take_X6_sortOf rfl (by decide +kernel) ⟨rfl, rfl, Nat.le_of_ble_eq_true rfl, Nat.le_of_ble_eq_true rfl⟩ gm_T_ok (fun _ => trivial) [] rfl rfl rfl [] rfl rfl hl.1 rfl (Nat.le_of_ble_eq_true rfl) dX6_take_133 ⟨Nat.zero_le _, Nat.zero_le _⟩ (fun H locs hH => ?_)
      have hH : gm_H (dC, dI) A s (wX6_take cI q q_bytes m_length m_items m_place m_start m_token m_number m_bytes) H locs := hH
      refine lv_aload_n hx hb dX6_take_136 rfl (lv_at hl 0 rfl) ?_
      refine gm_get (ci := 6) C0 hH inX6_take_X6 0 5 5 rfl rfl (by decide) rfl rfl dX6_take_137 ?_
      refine lv_icmp_ne (tgt := 156) hx hb dX6_take_140 (by decide) (fun hc12 => ?_) (fun hc12 => ?_)
      · replace h := gm_neg hc12 h
        exact tX6_take_b156 C0  h hH (lv_sub hl [0] rfl)
      · replace h := gm_pos hc12 h
        refine lv_aload_n hx hb dX6_take_143 rfl (lv_at hl 0 rfl) ?_
        refine lv_dup hx hb dX6_take_144 rfl ?_
        refine gm_get (ci := 6) C0 hH inX6_take_X6 0 3 1 rfl rfl (by decide) rfl rfl dX6_take_145 ?_
        refine lv_iconst (v := 1) hx hb dX6_take_148 (by decide) ?_
        refine lv_iadd hx hb dX6_take_149 ?_
        refine lv_topi (fun v13 ev13 => ?_)
        replace h := gm_let_e ev13 h
        refine gm_putf (ci := 6) C0 hH inX6_take_X6 tyX6_ok nmX6 0 3 1 rfl rfl (by decide) rfl rfl rfl rfl rfl (Nat.le_of_ble_eq_true rfl) dX6_take_150 (fun H locs hH => ?_)
        have hH : gm_H (dC, dI) A s (wX6_take cI q q_bytes m_length m_items v13 m_start m_token m_number m_bytes) H locs := hH
        refine lv_goto (tgt := 113) hx hb dX6_take_153 (by decide) ?_
        exact hr113 _ _ _ _ h hH (lv_sub hl [0] rfl)
set_option maxRecDepth 100000 in
set_option maxHeartbeats 4000000 in
theorem tX6_take_b74 {p : Program} {l : Launch} {e : Env} {s : State} {m : MethodId} {args : Array Value} {below : List Frame} {meth : Method} {c : Code} {A : Nat → Prop} {dC : Nat → ClassId} {dI : Nat → Nat → Nat} {cI : ClassId} {q q_bytes : Nat} {m_length : Int32} {m_items : Int32} {m_place : Int32} {m_start : Int32} {m_token : Int32} {m_number : Int32} {m_bytes : Nat → Int32} {k1 : Int32} (C0 : gm_C p s m args meth c (dC, dI) [(cI, .int)] A gm_T RX6 cX6_take 1 none wsX6_take) {N : Nat} {out : Int32 × Int32 × Int32 × Int32}    {H : Heap} {locs : List Loc} {ls : Array Slot} (h : fX6_take_b74 N  m_length m_place m_start m_token m_number m_bytes k1 = some out) (hH : gm_H (dC, dI) A s (wX6_take cI q q_bytes m_length m_items m_place m_start m_token m_number m_bytes) H locs) (hl : lv_has ls 1 [(0, .ref q)]) : W p l e rX6_take s m args below meth c H locs 0 0 (MQ below (gm_Q (dC, dI) [(cI, .int)] A none (wX6_take cI q q_bytes m_length m_items out.1 out.2.1 out.2.2.1 out.2.2.2 m_bytes)) args s 0 0 A) (F0 m 74 ls [.int k1, .ref q]) := by
  obtain ⟨hx, hb, hml, hr, hown, hts, hA, hK, hX, hlocks⟩ := id C0
  unfold fX6_take_b74 at h
  refine gm_putf (ci := 6) C0 hH inX6_take_X6 tyX6_ok nmX6 0 5 5 rfl rfl (by decide) rfl rfl rfl rfl rfl (Nat.le_of_ble_eq_true rfl) dX6_take_74 (fun H locs hH => ?_)
  have hH : gm_H (dC, dI) A s (wX6_take cI q q_bytes m_length m_items m_place m_start k1 m_number m_bytes) H locs := hH
  refine lv_aload_n hx hb dX6_take_77 rfl (lv_at hl 0 rfl) ?_
  refine gm_get (ci := 6) C0 hH inX6_take_X6 0 5 5 rfl rfl (by decide) rfl rfl dX6_take_78 ?_
  refine lv_iconst (v := 3) hx hb dX6_take_81 (by decide) ?_
  refine lv_icmp_eq (tgt := 93) hx hb dX6_take_82 (by decide) (fun hc3 => ?_) (fun hc3 => ?_)
  · replace h := gm_pos hc3 h
    exact tX6_take_b93 C0  h hH (lv_sub hl [0] rfl)
  · replace h := gm_neg hc3 h
    refine lv_aload_n hx hb dX6_take_85 rfl (lv_at hl 0 rfl) ?_
    refine gm_get (ci := 6) C0 hH inX6_take_X6 0 5 5 rfl rfl (by decide) rfl rfl dX6_take_86 ?_
    refine lv_iconst (v := 4) hx hb dX6_take_89 (by decide) ?_
    refine lv_icmp_ne (tgt := 106) hx hb dX6_take_90 (by decide) (fun hc7 => ?_) (fun hc7 => ?_)
    · replace h := gm_neg hc7 h
      refine lv_aload_n hx hb dX6_take_106 rfl (lv_at hl 0 rfl) ?_
      refine gm_get (ci := 6) C0 hH inX6_take_X6 0 5 5 rfl rfl (by decide) rfl rfl dX6_take_107 ?_
      refine lv_if_eq (tgt := 156) hx hb dX6_take_110 (by decide) (fun hc8 => ?_) (fun hc8 => ?_)
      · replace h := gm_pos hc8 h
        exact tX6_take_b156 C0  h hH (lv_sub hl [0] rfl)
      · replace h := gm_neg hc8 h
        unfold fX6_take_b113 at h
        exact tX6_take_b113 C0  _ _ _ _ _ h hH (lv_sub hl [0] rfl)
    · replace h := gm_pos hc7 h
      exact tX6_take_b93 C0  h hH (lv_sub hl [0] rfl)
set_option maxRecDepth 100000 in
set_option maxHeartbeats 4000000 in
theorem tX6_take_b38 {p : Program} {l : Launch} {e : Env} {s : State} {m : MethodId} {args : Array Value} {below : List Frame} {meth : Method} {c : Code} {A : Nat → Prop} {dC : Nat → ClassId} {dI : Nat → Nat → Nat} {cI : ClassId} {q q_bytes : Nat} {m_length : Int32} {m_items : Int32} {m_place : Int32} {m_start : Int32} {m_token : Int32} {m_number : Int32} {m_bytes : Nat → Int32} (C0 : gm_C p s m args meth c (dC, dI) [(cI, .int)] A gm_T RX6 cX6_take 1 none wsX6_take) {N : Nat} {out : Int32 × Int32 × Int32 × Int32}    {H : Heap} {locs : List Loc} {ls : Array Slot} (h : fX6_take_b38 N  m_length m_place m_start m_token m_number m_bytes = some out) (hH : gm_H (dC, dI) A s (wX6_take cI q q_bytes m_length m_items m_place m_start m_token m_number m_bytes) H locs) (hl : lv_has ls 1 [(0, .ref q)]) : W p l e rX6_take s m args below meth c H locs 0 0 (MQ below (gm_Q (dC, dI) [(cI, .int)] A none (wX6_take cI q q_bytes m_length m_items out.1 out.2.1 out.2.2.1 out.2.2.2 m_bytes)) args s 0 0 A) (F0 m 38 ls []) := by
  obtain ⟨hx, hb, hml, hr, hown, hts, hA, hK, hX, hlocks⟩ := id C0
  unfold fX6_take_b38 at h
  refine lv_aload_n hx hb dX6_take_38 rfl (lv_at hl 0 rfl) ?_
  refine lv_aload_n hx hb dX6_take_39 rfl (lv_at hl 0 rfl) ?_
  refine gm_get (ci := 6) C0 hH inX6_take_X6 0 3 1 rfl rfl (by decide) rfl rfl dX6_take_40 ?_
  refine gm_putf (ci := 6) C0 hH inX6_take_X6 tyX6_ok nmX6 0 4 4 rfl rfl (by decide) rfl rfl rfl rfl rfl (Nat.le_of_ble_eq_true rfl) dX6_take_43 (fun H locs hH => ?_)
  have hH : gm_H (dC, dI) A s (wX6_take cI q q_bytes m_length m_items m_place m_place m_token m_number m_bytes) H locs := hH
  refine lv_aload_n hx hb dX6_take_46 rfl (lv_at hl 0 rfl) ?_
  refine lv_aload_n hx hb dX6_take_47 rfl (lv_at hl 0 rfl) ?_
  refine gm_get (ci := 6) C0 hH inX6_take_X6 0 3 1 rfl rfl (by decide) rfl rfl dX6_take_48 ?_
  refine lv_aload_n hx hb dX6_take_51 rfl (lv_at hl 0 rfl) ?_
  refine gm_get (ci := 6) C0 hH inX6_take_X6 0 1 2 rfl rfl (by decide) rfl rfl dX6_take_52 ?_
  refine lv_icmp_ge (tgt := 73) hx hb dX6_take_55 (by decide) (fun hc2 => ?_) (fun hc2 => ?_)
  · replace h := gm_pos hc2 h
    refine lv_iconst (v := 0) hx hb dX6_take_73 (by decide) ?_
    exact tX6_take_b74 C0  h hH (lv_sub hl [0] rfl)
  · replace h := gm_neg hc2 h
    refine lv_aload_n hx hb dX6_take_58 rfl (lv_at hl 0 rfl) ?_
    refine gm_get (ci := 6) C0 hH inX6_take_X6 0 0 3 rfl rfl (by decide) rfl rfl dX6_take_59 ?_
    refine lv_aload_n hx hb dX6_take_62 rfl (lv_at hl 0 rfl) ?_
    refine gm_get (ci := 6) C0 hH inX6_take_X6 0 3 1 rfl rfl (by decide) rfl rfl dX6_take_63 ?_
    obtain ⟨hi14, h⟩ := gm_chk_e h
    refine gm_iald C0 hH hi14 1 0 rfl rfl dX6_take_66 ?_
    obtain ⟨o15, ho15, h⟩ := gm_bind_e h
    refine gm_callS (As := [.int (m_bytes (Int32.toNatClampNeg m_place))]) (rest := [.ref q]) (n := 1) C0 hH (mX6_sortOf l dC dI    ((m_bytes (Int32.toNatClampNeg m_place)))   ho15) gX6_take_X6_sortOf rfl (by decide +kernel) ⟨rfl, rfl, Nat.le_of_ble_eq_true rfl, Nat.le_of_ble_eq_true rfl⟩ gm_T_ok (fun _ => trivial) [] rfl rfl rfl [] rfl rfl hl.1 rfl (Nat.le_of_ble_eq_true rfl) dX6_take_67 ⟨Nat.zero_le _, Nat.zero_le _⟩ (fun H locs hH => ?_)
    have hH : gm_H (dC, dI) A s (wX6_take cI q q_bytes m_length m_items m_place m_place m_token m_number m_bytes) H locs := hH
    refine lv_goto (tgt := 74) hx hb dX6_take_70 (by decide) ?_
    exact tX6_take_b74 C0  h hH (lv_sub hl [0] rfl)
set_option maxRecDepth 100000 in
set_option maxHeartbeats 4000000 in
theorem tX6_take_b0 {p : Program} {l : Launch} {e : Env} {s : State} {m : MethodId} {args : Array Value} {below : List Frame} {meth : Method} {c : Code} {A : Nat → Prop} {dC : Nat → ClassId} {dI : Nat → Nat → Nat} {cI : ClassId} {q q_bytes : Nat} {m_length : Int32} {m_items : Int32} {m_start : Int32} {m_token : Int32} {m_number : Int32} {m_bytes : Nat → Int32} (C0 : gm_C p s m args meth c (dC, dI) [(cI, .int)] A gm_T RX6 cX6_take 1 none wsX6_take) {N : Nat} {out : Int32 × Int32 × Int32 × Int32}   : ∀ (n : Nat), ∀ (m_place : Int32) (H : Heap) (locs : List Loc) (ls : Array Slot), (gm_fix (fX6_take_b0_body N  m_length m_start m_token m_number m_bytes) (fun _ => none) n) m_place = some out → gm_H (dC, dI) A s (wX6_take cI q q_bytes m_length m_items m_place m_start m_token m_number m_bytes) H locs → lv_has ls 1 [(0, .ref q)] → W p l e rX6_take s m args below meth c H locs 0 0 (MQ below (gm_Q (dC, dI) [(cI, .int)] A none (wX6_take cI q q_bytes m_length m_items out.1 out.2.1 out.2.2.1 out.2.2.2 m_bytes)) args s 0 0 A) (F0 m 0 ls []) := by
  obtain ⟨hx, hb, hml, hr, hown, hts, hA, hK, hX, hlocks⟩ := id C0
  intro n
  induction n with
  | zero =>
    intro m_place H locs ls h hH hl
    cases h
  | succ n hr0 =>
    intro m_place H locs ls h hH hl
    rw [gm_fix_s] at h
    unfold fX6_take_b0_body at h
    refine lv_aload_n hx hb dX6_take_0 rfl (lv_at hl 0 rfl) ?_
    refine gm_get (ci := 6) C0 hH inX6_take_X6 0 3 1 rfl rfl (by decide) rfl rfl dX6_take_1 ?_
    refine lv_aload_n hx hb dX6_take_4 rfl (lv_at hl 0 rfl) ?_
    refine gm_get (ci := 6) C0 hH inX6_take_X6 0 1 2 rfl rfl (by decide) rfl rfl dX6_take_5 ?_
    refine lv_icmp_ge (tgt := 38) hx hb dX6_take_8 (by decide) (fun hc1 => ?_) (fun hc1 => ?_)
    · replace h := gm_pos hc1 h
      exact tX6_take_b38 C0  h hH (lv_sub hl [0] rfl)
    · replace h := gm_neg hc1 h
      refine lv_aload_n hx hb dX6_take_11 rfl (lv_at hl 0 rfl) ?_
      refine gm_get (ci := 6) C0 hH inX6_take_X6 0 0 3 rfl rfl (by decide) rfl rfl dX6_take_12 ?_
      refine lv_aload_n hx hb dX6_take_15 rfl (lv_at hl 0 rfl) ?_
      refine gm_get (ci := 6) C0 hH inX6_take_X6 0 3 1 rfl rfl (by decide) rfl rfl dX6_take_16 ?_
      obtain ⟨hi16, h⟩ := gm_chk_e h
      refine gm_iald C0 hH hi16 1 0 rfl rfl dX6_take_19 ?_
      refine lv_bipush (v := 32) hx hb dX6_take_20 (by decide) ?_
      refine lv_icmp_ne (tgt := 38) hx hb dX6_take_22 (by decide) (fun hc17 => ?_) (fun hc17 => ?_)
      · replace h := gm_neg hc17 h
        exact tX6_take_b38 C0  h hH (lv_sub hl [0] rfl)
      · replace h := gm_pos hc17 h
        refine lv_aload_n hx hb dX6_take_25 rfl (lv_at hl 0 rfl) ?_
        refine lv_dup hx hb dX6_take_26 rfl ?_
        refine gm_get (ci := 6) C0 hH inX6_take_X6 0 3 1 rfl rfl (by decide) rfl rfl dX6_take_27 ?_
        refine lv_iconst (v := 1) hx hb dX6_take_30 (by decide) ?_
        refine lv_iadd hx hb dX6_take_31 ?_
        refine lv_topi (fun v18 ev18 => ?_)
        replace h := gm_let_e ev18 h
        refine gm_putf (ci := 6) C0 hH inX6_take_X6 tyX6_ok nmX6 0 3 1 rfl rfl (by decide) rfl rfl rfl rfl rfl (Nat.le_of_ble_eq_true rfl) dX6_take_32 (fun H locs hH => ?_)
        have hH : gm_H (dC, dI) A s (wX6_take cI q q_bytes m_length m_items v18 m_start m_token m_number m_bytes) H locs := hH
        refine lv_goto (tgt := 0) hx hb dX6_take_35 (by decide) ?_
        exact hr0 _ _ _ _ h hH (lv_sub hl [0] rfl)
set_option maxRecDepth 100000 in
set_option maxHeartbeats 4000000 in
theorem mX6_take (l : Launch) (dC : Nat → ClassId) (dI : Nat → Nat → Nat) (cI : ClassId) (q q_bytes : Nat) (m_length : Int32) (m_items : Int32) (m_place : Int32) (m_start : Int32) (m_token : Int32) (m_number : Int32) (m_bytes : Nat → Int32)   {N : Nat} {out : Int32 × Int32 × Int32 × Int32} (h : fX6_take N m_length m_place m_start m_token m_number m_bytes = some out) : gm_Met l yX6_take wsX6_take rX6_take (dC, dI) [(cI, .int)] gm_T [.ref q] (wX6_take cI q q_bytes m_length m_items m_place m_start m_token m_number m_bytes) none (wX6_take cI q q_bytes m_length m_items out.1 out.2.1 out.2.2.1 out.2.2.2 m_bytes) := by
  refine gm_ofW (cc := cX6_take) (maxL := 1) (ret := none) (by decide +kernel) rfl (Nat.le_of_ble_eq_true rfl) ?_
  intro p e s m below meth c A C0 hH ls hl
  generalize ([.ref q] : List Value).toArray = args at C0 ⊢
  have hl : lv_has ls 1 [(0, .ref q)] := hl
  generalize s.heap = H at hH ⊢
  generalize ([] : List Loc) = locs at hH ⊢
  obtain ⟨hx, hb, hml, hr, hown, hts, hA, hK, hX, hlocks⟩ := id C0
  unfold fX6_take at h
  unfold fX6_take_b0 at h
  exact tX6_take_b0 C0  _ _ _ _ _ h hH (lv_sub hl [0] rfl)

/-! X6_isLetters -/
abbrev wX6_isLetters (cI : ClassId) (q q_bytes : Nat) (m_length : Int32) (m_items : Int32) (m_place : Int32) (m_start : Int32) (m_token : Int32) (m_number : Int32) (m_bytes : Nat → Int32) : va_W := [(q, .inr (6, [.ref q_bytes, .int m_length, .int m_items, .int m_place, .int m_start, .int m_token, .int m_number])), (q_bytes, .inl (cI, 150, .inl m_bytes))]
abbrev rX6_isLetters : Room := { frames := 4, cells := 0, slots := 0, locals := 85 }
def fX6_isLetters_b28_body (N : Nat)  (m_start : Int32) (m_bytes : Nat → Int32) (x1 : Nat) (r28 : Int32 → Option (Int32)) (x2 : Int32) : Option (Int32) := (if (gm_len x1) ≤ x2 then some (1) else gm_chk ((m_start + x2)) 150 (gm_chk x2 (gm_sl.getD x1 0) ((if (m_bytes (Int32.toNatClampNeg ((m_start + x2)))) = (gm_chr x1 (Int32.toNatClampNeg x2)) then (r28 ((x2 + 1))) else some (0)))))
def fX6_isLetters_b28 (N : Nat)  (m_start : Int32) (m_bytes : Nat → Int32) (x1 : Nat) (x2 : Int32) : Option (Int32) := gm_fix (fX6_isLetters_b28_body N  m_start m_bytes x1) (fun _ => none) N x2
def fX6_isLetters (N : Nat) (m_place : Int32) (m_start : Int32) (m_token : Int32) (m_bytes : Nat → Int32) (x1 : Nat) : Option (Int32) := (if m_token = 1 then (if (m_place - m_start) = (gm_len x1) then (fX6_isLetters_b28 N  m_start m_bytes x1 0) else some (0)) else some (0))
set_option maxRecDepth 20000 in
theorem inX6_isLetters_X6 : ∀ w ∈ u_ws RX6 TX6 7, w ∈ wsX6_isLetters := fun w h => by
  obtain ⟨k, hk, rfl⟩ := List.mem_map.mp h
  have hk2 := List.mem_range.mp hk
  exact List.mem_of_getElem? (i := 54 + k) (by rcases (show k = 0 ∨ k = 1 ∨ k = 2 ∨ k = 3 ∨ k = 4 ∨ k = 5 ∨ k = 6 by omega) with rfl | rfl | rfl | rfl | rfl | rfl | rfl <;> rfl)
set_option maxRecDepth 100000 in
set_option maxHeartbeats 4000000 in
theorem tX6_isLetters_b28 {p : Program} {l : Launch} {e : Env} {s : State} {m : MethodId} {args : Array Value} {below : List Frame} {meth : Method} {c : Code} {A : Nat → Prop} {dC : Nat → ClassId} {dI : Nat → Nat → Nat} {cI : ClassId} {q q_bytes : Nat} {adK adV : Nat → Nat} {m_length : Int32} {m_items : Int32} {m_place : Int32} {m_start : Int32} {m_token : Int32} {m_number : Int32} {m_bytes : Nat → Int32} {x1 : Nat} (C0 : gm_C p s m args meth c (dC, dI) [(cI, .int)] A (gm_XR adK adV) RX6 cX6_isLetters 3 (some .boolean) wsX6_isLetters) {N : Nat} {out : Int32}  (hs1 : x1 < 4) : ∀ (n : Nat), ∀ (x2 : Int32) (H : Heap) (locs : List Loc) (ls : Array Slot), (gm_fix (fX6_isLetters_b28_body N  m_start m_bytes x1) (fun _ => none) n) x2 = some out → gm_H (dC, dI) A s (wX6_isLetters cI q q_bytes m_length m_items m_place m_start m_token m_number m_bytes) H locs → lv_has ls 3 [(0, .ref q), (1, .ref (adK x1)), (2, .int x2)] → W p l e rX6_isLetters s m args below meth c H locs 0 0 (MQ below (gm_Q (dC, dI) [(cI, .int)] A (some (.int out)) (wX6_isLetters cI q q_bytes m_length m_items m_place m_start m_token m_number m_bytes)) args s 0 0 A) (F0 m 28 ls []) := by
  obtain ⟨hx, hb, hml, hr, hown, hts, hA, hK, hX, hlocks⟩ := id C0
  intro n
  induction n with
  | zero =>
    intro x2 H locs ls h hH hl
    cases h
  | succ n hr28 =>
    intro x2 H locs ls h hH hl
    rw [gm_fix_s] at h
    unfold fX6_isLetters_b28_body at h
    refine lv_iload_n hx hb dX6_isLetters_28 rfl (lv_at hl 2 rfl) ?_
    refine lv_aload_n hx hb dX6_isLetters_29 rfl (lv_at hl 1 rfl) ?_
    refine gm_callVr (As := []) (rest := [.int x2]) (n := 0) C0 hH (mJ0_length l dC dI adK adV x1 hs1) gX6_isLetters_J0_length_8abf5 rfl (by decide +kernel) ⟨rfl, rfl, Nat.le_of_ble_eq_true rfl, Nat.le_of_ble_eq_true rfl⟩ (gm_XR_ok adK adV) (fun h => h) [] rfl rfl rfl [] rfl (vk_recv hX.1 hs1 hH.2.2) rfl hl.1 rfl (Nat.le_of_ble_eq_true rfl) dX6_isLetters_30 ⟨Nat.zero_le _, Nat.zero_le _⟩ (fun H locs hH => ?_)
    have hH : gm_H (dC, dI) A s (wX6_isLetters cI q q_bytes m_length m_items m_place m_start m_token m_number m_bytes) H locs := hH
    refine lv_icmp_ge (tgt := 63) hx hb dX6_isLetters_33 (by decide) (fun hc5 => ?_) (fun hc5 => ?_)
    · replace h := gm_pos hc5 h
      refine lv_iconst (v := 1) hx hb dX6_isLetters_63 (by decide) ?_
      obtain rfl := Option.some.inj h
      exact gm_zret C0 hH (show narrow .boolean (.int 1) = .int 1 by decide) dX6_isLetters_64
    · replace h := gm_neg hc5 h
      refine lv_aload_n hx hb dX6_isLetters_36 rfl (lv_at hl 0 rfl) ?_
      refine gm_get (ci := 6) C0 hH inX6_isLetters_X6 0 0 4 rfl rfl (by decide) rfl rfl dX6_isLetters_37 ?_
      refine lv_aload_n hx hb dX6_isLetters_40 rfl (lv_at hl 0 rfl) ?_
      refine gm_get (ci := 6) C0 hH inX6_isLetters_X6 0 4 3 rfl rfl (by decide) rfl rfl dX6_isLetters_41 ?_
      refine lv_iload_n hx hb dX6_isLetters_44 rfl (lv_at hl 2 rfl) ?_
      refine lv_iadd hx hb dX6_isLetters_45 ?_
      obtain ⟨hi6, h⟩ := gm_chk_e h
      refine gm_iald C0 hH hi6 1 0 rfl rfl dX6_isLetters_46 ?_
      refine lv_aload_n hx hb dX6_isLetters_47 rfl (lv_at hl 1 rfl) ?_
      refine lv_iload_n hx hb dX6_isLetters_48 rfl (lv_at hl 2 rfl) ?_
      obtain ⟨hi7, h⟩ := gm_chk_e h
      refine gm_callVr (As := [.int x2]) (rest := [.int (m_bytes (Int32.toNatClampNeg ((m_start + x2))))]) (n := 1) C0 hH (mJ0_charAt l dC dI adK adV x1 hs1 x2 hi7) gX6_isLetters_J0_charAt_5068e rfl (by decide +kernel) ⟨rfl, rfl, Nat.le_of_ble_eq_true rfl, Nat.le_of_ble_eq_true rfl⟩ (gm_XR_ok adK adV) (fun h => h) [] rfl rfl rfl [] rfl (vk_recv hX.1 hs1 hH.2.2) rfl hl.1 rfl (Nat.le_of_ble_eq_true rfl) dX6_isLetters_49 ⟨Nat.zero_le _, Nat.zero_le _⟩ (fun H locs hH => ?_)
      have hH : gm_H (dC, dI) A s (wX6_isLetters cI q q_bytes m_length m_items m_place m_start m_token m_number m_bytes) H locs := hH
      refine lv_icmp_eq (tgt := 57) hx hb dX6_isLetters_52 (by decide) (fun hc8 => ?_) (fun hc8 => ?_)
      · replace h := gm_pos hc8 h
        refine lv_iinc (v := (x2 + 1)) (lv' := [(2, .int (x2 + 1)), (0, .ref q), (1, .ref (adK x1))]) hx hb dX6_isLetters_57 hl (k := 2) rfl rfl (by decide) rfl (fun ls hl => ?_)
        refine lv_goto (tgt := 28) hx hb dX6_isLetters_60 (by decide) ?_
        exact hr28 _ _ _ _ h hH (lv_sub hl [1, 2, 0] rfl)
      · replace h := gm_neg hc8 h
        refine lv_iconst (v := 0) hx hb dX6_isLetters_55 (by decide) ?_
        obtain rfl := Option.some.inj h
        exact gm_zret C0 hH (show narrow .boolean (.int 0) = .int 0 by decide) dX6_isLetters_56
set_option maxRecDepth 100000 in
set_option maxHeartbeats 4000000 in
theorem mX6_isLetters (l : Launch) (dC : Nat → ClassId) (dI : Nat → Nat → Nat) (cI : ClassId) (q q_bytes : Nat) (m_length : Int32) (m_items : Int32) (m_place : Int32) (m_start : Int32) (m_token : Int32) (m_number : Int32) (m_bytes : Nat → Int32) (x1 : Nat) (adK adV : Nat → Nat) (hs1 : x1 < 4) {N : Nat} {out : Int32} (h : fX6_isLetters N m_place m_start m_token m_bytes x1 = some out) : gm_Met l yX6_isLetters wsX6_isLetters rX6_isLetters (dC, dI) [(cI, .int)] (gm_XR adK adV) [.ref q, .ref (adK x1)] (wX6_isLetters cI q q_bytes m_length m_items m_place m_start m_token m_number m_bytes) (some (.int out)) (wX6_isLetters cI q q_bytes m_length m_items m_place m_start m_token m_number m_bytes) := by
  refine gm_ofW (cc := cX6_isLetters) (maxL := 3) (ret := (some .boolean)) (by decide +kernel) rfl (Nat.le_of_ble_eq_true rfl) ?_
  intro p e s m below meth c A C0 hH ls hl
  generalize ([.ref q, .ref (adK x1)] : List Value).toArray = args at C0 ⊢
  have hl : lv_has ls 3 [(0, .ref q), (1, .ref (adK x1))] := hl
  generalize s.heap = H at hH ⊢
  generalize ([] : List Loc) = locs at hH ⊢
  obtain ⟨hx, hb, hml, hr, hown, hts, hA, hK, hX, hlocks⟩ := id C0
  unfold fX6_isLetters at h
  refine lv_aload_n hx hb dX6_isLetters_0 rfl (lv_at hl 0 rfl) ?_
  refine gm_get (ci := 6) C0 hH inX6_isLetters_X6 0 5 1 rfl rfl (by decide) rfl rfl dX6_isLetters_1 ?_
  refine lv_iconst (v := 1) hx hb dX6_isLetters_4 (by decide) ?_
  refine lv_icmp_ne (tgt := 24) hx hb dX6_isLetters_5 (by decide) (fun hc1 => ?_) (fun hc1 => ?_)
  · replace h := gm_neg hc1 h
    refine lv_iconst (v := 0) hx hb dX6_isLetters_24 (by decide) ?_
    obtain rfl := Option.some.inj h
    exact gm_zret C0 hH (show narrow .boolean (.int 0) = .int 0 by decide) dX6_isLetters_25
  · replace h := gm_pos hc1 h
    refine lv_aload_n hx hb dX6_isLetters_8 rfl (lv_at hl 0 rfl) ?_
    refine gm_get (ci := 6) C0 hH inX6_isLetters_X6 0 3 2 rfl rfl (by decide) rfl rfl dX6_isLetters_9 ?_
    refine lv_aload_n hx hb dX6_isLetters_12 rfl (lv_at hl 0 rfl) ?_
    refine gm_get (ci := 6) C0 hH inX6_isLetters_X6 0 4 3 rfl rfl (by decide) rfl rfl dX6_isLetters_13 ?_
    refine lv_isub hx hb dX6_isLetters_16 ?_
    refine lv_aload_n hx hb dX6_isLetters_17 rfl (lv_at hl 1 rfl) ?_
    refine gm_callVr (As := []) (rest := [.int (m_place - m_start)]) (n := 0) C0 hH (mJ0_length l dC dI adK adV x1 hs1) gX6_isLetters_J0_length_8abf5 rfl (by decide +kernel) ⟨rfl, rfl, Nat.le_of_ble_eq_true rfl, Nat.le_of_ble_eq_true rfl⟩ (gm_XR_ok adK adV) (fun h => h) [] rfl rfl rfl [] rfl (vk_recv hX.1 hs1 hH.2.2) rfl hl.1 rfl (Nat.le_of_ble_eq_true rfl) dX6_isLetters_18 ⟨Nat.zero_le _, Nat.zero_le _⟩ (fun H locs hH => ?_)
    have hH : gm_H (dC, dI) A s (wX6_isLetters cI q q_bytes m_length m_items m_place m_start m_token m_number m_bytes) H locs := hH
    refine lv_icmp_eq (tgt := 26) hx hb dX6_isLetters_21 (by decide) (fun hc3 => ?_) (fun hc3 => ?_)
    · replace h := gm_pos hc3 h
      refine lv_iconst (v := 0) hx hb dX6_isLetters_26 (by decide) ?_
      refine lv_istore_n (lv' := [(2, .int 0), (0, .ref q), (1, .ref (adK x1))]) hx hb dX6_isLetters_27 rfl hl (by decide) rfl (fun ls hl => ?_)
      unfold fX6_isLetters_b28 at h
      exact tX6_isLetters_b28 C0 hs1 _ _ _ _ _ h hH (lv_sub hl [1, 2, 0] rfl)
    · replace h := gm_neg hc3 h
      refine lv_iconst (v := 0) hx hb dX6_isLetters_24 (by decide) ?_
      obtain rfl := Option.some.inj h
      exact gm_zret C0 hH (show narrow .boolean (.int 0) = .int 0 by decide) dX6_isLetters_25

/-! X6_takesStop -/
abbrev wX6_takesStop (cI : ClassId) (q q_bytes : Nat) (m_length : Int32) (m_items : Int32) (m_place : Int32) (m_start : Int32) (m_token : Int32) (m_number : Int32) (m_bytes : Nat → Int32) : va_W := [(q, .inr (6, [.ref q_bytes, .int m_length, .int m_items, .int m_place, .int m_start, .int m_token, .int m_number])), (q_bytes, .inl (cI, 150, .inl m_bytes))]
abbrev rX6_takesStop : Room := { frames := 2, cells := 0, slots := 0, locals := 41 }
def fX6_takesStop (N : Nat) (m_length : Int32) (m_place : Int32) (m_start : Int32) (m_token : Int32) (m_number : Int32) (m_bytes : Nat → Int32)  : Option (Int32 × Int32 × Int32 × Int32 × Int32) := gm_bind (fX6_take N m_length m_place m_start m_token m_number m_bytes) (fun o1 => (if o1.2.2.1 = 3 then some (1, o1.1, o1.2.1, o1.2.2.1, o1.2.2.2) else some (0, o1.1, o1.2.1, o1.2.2.1, o1.2.2.2)))
set_option maxRecDepth 20000 in
theorem inX6_takesStop_X6 : ∀ w ∈ u_ws RX6 TX6 7, w ∈ wsX6_takesStop := fun w h => by
  obtain ⟨k, hk, rfl⟩ := List.mem_map.mp h
  have hk2 := List.mem_range.mp hk
  exact List.mem_of_getElem? (i := 19 + k) (by rcases (show k = 0 ∨ k = 1 ∨ k = 2 ∨ k = 3 ∨ k = 4 ∨ k = 5 ∨ k = 6 by omega) with rfl | rfl | rfl | rfl | rfl | rfl | rfl <;> rfl)
set_option maxRecDepth 100000 in
set_option maxHeartbeats 4000000 in
theorem mX6_takesStop (l : Launch) (dC : Nat → ClassId) (dI : Nat → Nat → Nat) (cI : ClassId) (q q_bytes : Nat) (m_length : Int32) (m_items : Int32) (m_place : Int32) (m_start : Int32) (m_token : Int32) (m_number : Int32) (m_bytes : Nat → Int32)   {N : Nat} {out : Int32 × Int32 × Int32 × Int32 × Int32} (h : fX6_takesStop N m_length m_place m_start m_token m_number m_bytes = some out) : gm_Met l yX6_takesStop wsX6_takesStop rX6_takesStop (dC, dI) [(cI, .int)] gm_T [.ref q] (wX6_takesStop cI q q_bytes m_length m_items m_place m_start m_token m_number m_bytes) (some (.int out.1)) (wX6_takesStop cI q q_bytes m_length m_items out.2.1 out.2.2.1 out.2.2.2.1 out.2.2.2.2 m_bytes) := by
  refine gm_ofW (cc := cX6_takesStop) (maxL := 1) (ret := (some .boolean)) (by decide +kernel) rfl (Nat.le_of_ble_eq_true rfl) ?_
  intro p e s m below meth c A C0 hH ls hl
  generalize ([.ref q] : List Value).toArray = args at C0 ⊢
  have hl : lv_has ls 1 [(0, .ref q)] := hl
  generalize s.heap = H at hH ⊢
  generalize ([] : List Loc) = locs at hH ⊢
  obtain ⟨hx, hb, hml, hr, hown, hts, hA, hK, hX, hlocks⟩ := id C0
  unfold fX6_takesStop at h
  refine lv_aload_n hx hb dX6_takesStop_0 rfl (lv_at hl 0 rfl) ?_
  obtain ⟨o1, ho1, h⟩ := gm_bind_e h
  refine gm_callV (As := []) (rest := []) (n := 0) (ci := 6) (q0 := 0) C0 hH (mX6_take l dC dI cI q q_bytes m_length m_items m_place m_start m_token m_number m_bytes    ho1) gX6_takesStop_X6_take rfl (by decide +kernel) ⟨rfl, rfl, Nat.le_of_ble_eq_true rfl, Nat.le_of_ble_eq_true rfl⟩ gm_T_ok (fun _ => trivial) [0, 1] rfl rfl rfl [0] rfl rfl rfl rfl hl.1 rfl (Nat.le_of_ble_eq_true rfl) dX6_takesStop_1 ⟨Nat.zero_le _, Nat.zero_le _⟩ (fun H locs hH => ?_)
  have hH : gm_H (dC, dI) A s (wX6_takesStop cI q q_bytes m_length m_items o1.1 o1.2.1 o1.2.2.1 o1.2.2.2 m_bytes) H locs := hH
  refine lv_aload_n hx hb dX6_takesStop_4 rfl (lv_at hl 0 rfl) ?_
  refine gm_get (ci := 6) C0 hH inX6_takesStop_X6 0 5 1 rfl rfl (by decide) rfl rfl dX6_takesStop_5 ?_
  refine lv_iconst (v := 3) hx hb dX6_takesStop_8 (by decide) ?_
  refine lv_icmp_ne (tgt := 16) hx hb dX6_takesStop_9 (by decide) (fun hc2 => ?_) (fun hc2 => ?_)
  · replace h := gm_neg hc2 h
    refine lv_iconst (v := 0) hx hb dX6_takesStop_16 (by decide) ?_
    obtain rfl := Option.some.inj h
    exact gm_zret C0 hH (show narrow .boolean (.int 0) = .int 0 by decide) dX6_takesStop_17
  · replace h := gm_pos hc2 h
    refine lv_iconst (v := 1) hx hb dX6_takesStop_12 (by decide) ?_
    refine lv_goto (tgt := 17) hx hb dX6_takesStop_13 (by decide) ?_
    obtain rfl := Option.some.inj h
    exact gm_zret C0 hH (show narrow .boolean (.int 1) = .int 1 by decide) dX6_takesStop_17

/-! X6_takesBelow -/
abbrev wX6_takesBelow (cI : ClassId) (q q_bytes : Nat) (m_length : Int32) (m_items : Int32) (m_place : Int32) (m_start : Int32) (m_token : Int32) (m_number : Int32) (m_bytes : Nat → Int32) : va_W := [(q, .inr (6, [.ref q_bytes, .int m_length, .int m_items, .int m_place, .int m_start, .int m_token, .int m_number])), (q_bytes, .inl (cI, 150, .inl m_bytes))]
abbrev rX6_takesBelow : Room := { frames := 2, cells := 0, slots := 0, locals := 41 }
def fX6_takesBelow (N : Nat) (m_length : Int32) (m_place : Int32) (m_start : Int32) (m_token : Int32) (m_number : Int32) (m_bytes : Nat → Int32) (x1 : Int32) : Option (Int32 × Int32 × Int32 × Int32 × Int32) := gm_bind (fX6_take N m_length m_place m_start m_token m_number m_bytes) (fun o1 => (if o1.2.2.1 = 2 then (if x1 ≤ o1.2.2.2 then some (0, o1.1, o1.2.1, o1.2.2.1, o1.2.2.2) else some (1, o1.1, o1.2.1, o1.2.2.1, o1.2.2.2)) else some (0, o1.1, o1.2.1, o1.2.2.1, o1.2.2.2)))
set_option maxRecDepth 20000 in
theorem inX6_takesBelow_X6 : ∀ w ∈ u_ws RX6 TX6 7, w ∈ wsX6_takesBelow := fun w h => by
  obtain ⟨k, hk, rfl⟩ := List.mem_map.mp h
  have hk2 := List.mem_range.mp hk
  exact List.mem_of_getElem? (i := 19 + k) (by rcases (show k = 0 ∨ k = 1 ∨ k = 2 ∨ k = 3 ∨ k = 4 ∨ k = 5 ∨ k = 6 by omega) with rfl | rfl | rfl | rfl | rfl | rfl | rfl <;> rfl)
set_option maxRecDepth 100000 in
set_option maxHeartbeats 4000000 in
theorem mX6_takesBelow (l : Launch) (dC : Nat → ClassId) (dI : Nat → Nat → Nat) (cI : ClassId) (q q_bytes : Nat) (m_length : Int32) (m_items : Int32) (m_place : Int32) (m_start : Int32) (m_token : Int32) (m_number : Int32) (m_bytes : Nat → Int32) (x1 : Int32)  {N : Nat} {out : Int32 × Int32 × Int32 × Int32 × Int32} (h : fX6_takesBelow N m_length m_place m_start m_token m_number m_bytes x1 = some out) : gm_Met l yX6_takesBelow wsX6_takesBelow rX6_takesBelow (dC, dI) [(cI, .int)] gm_T [.ref q, .int x1] (wX6_takesBelow cI q q_bytes m_length m_items m_place m_start m_token m_number m_bytes) (some (.int out.1)) (wX6_takesBelow cI q q_bytes m_length m_items out.2.1 out.2.2.1 out.2.2.2.1 out.2.2.2.2 m_bytes) := by
  refine gm_ofW (cc := cX6_takesBelow) (maxL := 2) (ret := (some .boolean)) (by decide +kernel) rfl (Nat.le_of_ble_eq_true rfl) ?_
  intro p e s m below meth c A C0 hH ls hl
  generalize ([.ref q, .int x1] : List Value).toArray = args at C0 ⊢
  have hl : lv_has ls 2 [(0, .ref q), (1, .int x1)] := hl
  generalize s.heap = H at hH ⊢
  generalize ([] : List Loc) = locs at hH ⊢
  obtain ⟨hx, hb, hml, hr, hown, hts, hA, hK, hX, hlocks⟩ := id C0
  unfold fX6_takesBelow at h
  refine lv_aload_n hx hb dX6_takesBelow_0 rfl (lv_at hl 0 rfl) ?_
  obtain ⟨o1, ho1, h⟩ := gm_bind_e h
  refine gm_callV (As := []) (rest := []) (n := 0) (ci := 6) (q0 := 0) C0 hH (mX6_take l dC dI cI q q_bytes m_length m_items m_place m_start m_token m_number m_bytes    ho1) gX6_takesBelow_X6_take rfl (by decide +kernel) ⟨rfl, rfl, Nat.le_of_ble_eq_true rfl, Nat.le_of_ble_eq_true rfl⟩ gm_T_ok (fun _ => trivial) [0, 1] rfl rfl rfl [0] rfl rfl rfl rfl hl.1 rfl (Nat.le_of_ble_eq_true rfl) dX6_takesBelow_1 ⟨Nat.zero_le _, Nat.zero_le _⟩ (fun H locs hH => ?_)
  have hH : gm_H (dC, dI) A s (wX6_takesBelow cI q q_bytes m_length m_items o1.1 o1.2.1 o1.2.2.1 o1.2.2.2 m_bytes) H locs := hH
  refine lv_aload_n hx hb dX6_takesBelow_4 rfl (lv_at hl 0 rfl) ?_
  refine gm_get (ci := 6) C0 hH inX6_takesBelow_X6 0 5 1 rfl rfl (by decide) rfl rfl dX6_takesBelow_5 ?_
  refine lv_iconst (v := 2) hx hb dX6_takesBelow_8 (by decide) ?_
  refine lv_icmp_ne (tgt := 24) hx hb dX6_takesBelow_9 (by decide) (fun hc2 => ?_) (fun hc2 => ?_)
  · replace h := gm_neg hc2 h
    refine lv_iconst (v := 0) hx hb dX6_takesBelow_24 (by decide) ?_
    obtain rfl := Option.some.inj h
    exact gm_zret C0 hH (show narrow .boolean (.int 0) = .int 0 by decide) dX6_takesBelow_25
  · replace h := gm_pos hc2 h
    refine lv_aload_n hx hb dX6_takesBelow_12 rfl (lv_at hl 0 rfl) ?_
    refine gm_get (ci := 6) C0 hH inX6_takesBelow_X6 0 6 2 rfl rfl (by decide) rfl rfl dX6_takesBelow_13 ?_
    refine lv_iload_n hx hb dX6_takesBelow_16 rfl (lv_at hl 1 rfl) ?_
    refine lv_icmp_ge (tgt := 24) hx hb dX6_takesBelow_17 (by decide) (fun hc3 => ?_) (fun hc3 => ?_)
    · replace h := gm_pos hc3 h
      refine lv_iconst (v := 0) hx hb dX6_takesBelow_24 (by decide) ?_
      obtain rfl := Option.some.inj h
      exact gm_zret C0 hH (show narrow .boolean (.int 0) = .int 0 by decide) dX6_takesBelow_25
    · replace h := gm_neg hc3 h
      refine lv_iconst (v := 1) hx hb dX6_takesBelow_20 (by decide) ?_
      refine lv_goto (tgt := 25) hx hb dX6_takesBelow_21 (by decide) ?_
      obtain rfl := Option.some.inj h
      exact gm_zret C0 hH (show narrow .boolean (.int 1) = .int 1 by decide) dX6_takesBelow_25

/-! X6_takesWord -/
abbrev wX6_takesWord (cI : ClassId) (q q_bytes q_a1 q_a1_ending q_a1_meaning q_a1_cost q_a1_alikeTo q_a1_kind q_a1_want q_a1_saidAhead q_a1_heardWord q_a1_heardAnswer : Nat) (m_length : Int32) (m_items : Int32) (m_place : Int32) (m_start : Int32) (m_token : Int32) (m_number : Int32) (m_bytes : Nat → Int32) (m_a1_words : Int32) (m_a1_people : Int32) (m_a1_said : Int32) (m_a1_undos : Int32) (m_a1_heard : Int32) (m_a1_ending : Nat → Int32) (m_a1_meaning : Nat → Int32) (m_a1_cost : Nat → Int32) : va_W := [(q, .inr (6, [.ref q_bytes, .int m_length, .int m_items, .int m_place, .int m_start, .int m_token, .int m_number])), (q_bytes, .inl (cI, 150, .inl m_bytes)), (q_a1, .inr (9, [.ref q_a1_ending, .ref q_a1_meaning, .ref q_a1_cost, .int m_a1_words, .ref q_a1_alikeTo, .ref q_a1_kind, .ref q_a1_want, .int m_a1_people, .int m_a1_said, .ref q_a1_saidAhead, .int m_a1_undos, .ref q_a1_heardWord, .ref q_a1_heardAnswer, .int m_a1_heard])), (q_a1_ending, .inl (cI, 10, .inl m_a1_ending)), (q_a1_meaning, .inl (cI, 10, .inl m_a1_meaning)), (q_a1_cost, .inl (cI, 10, .inl m_a1_cost))]
abbrev rX6_takesWord : Room := { frames := 3, cells := 0, slots := 0, locals := 62 }
def fX6_takesWord (N : Nat) (m_length : Int32) (m_place : Int32) (m_start : Int32) (m_token : Int32) (m_number : Int32) (m_bytes : Nat → Int32) (m_a1_words : Int32) (m_a1_undos : Int32) (m_a1_ending : Nat → Int32) (m_a1_meaning : Nat → Int32) (m_a1_cost : Nat → Int32)  : Option (Int32 × Int32 × Int32 × Int32 × Int32 × Int32 × Int32 × (Nat → Int32) × (Nat → Int32) × (Nat → Int32)) := gm_bind (fX6_takesBelow N m_length m_place m_start m_token m_number m_bytes 8) (fun o1 => (if o1.1 = 0 then some (0, o1.2.1, o1.2.2.1, o1.2.2.2.1, o1.2.2.2.2, m_a1_words, m_a1_undos, m_a1_ending, m_a1_meaning, m_a1_cost) else gm_bind (fX6_takesBelow N m_length o1.2.1 o1.2.2.1 o1.2.2.2.1 o1.2.2.2.2 m_bytes 8) (fun o3 => (if o3.1 = 0 then some (0, o3.2.1, o3.2.2.1, o3.2.2.2.1, o3.2.2.2.2, m_a1_words, m_a1_undos, m_a1_ending, m_a1_meaning, m_a1_cost) else gm_bind (fX6_takesBelow N m_length o3.2.1 o3.2.2.1 o3.2.2.2.1 o3.2.2.2.2 m_bytes 21) (fun o5 => (if o5.1 = 0 then some (0, o5.2.1, o5.2.2.1, o5.2.2.2.1, o5.2.2.2.2, m_a1_words, m_a1_undos, m_a1_ending, m_a1_meaning, m_a1_cost) else gm_bind (fX9_addWord N m_a1_words m_a1_undos m_a1_ending m_a1_meaning m_a1_cost o1.2.2.2.2 o3.2.2.2.2 o5.2.2.2.2) (fun o7 => gm_bind (fX6_takesStop N m_length o5.2.1 o5.2.2.1 o5.2.2.2.1 o5.2.2.2.2 m_bytes) (fun o8 => gm_bl o8.1 (some (o8.1, o8.2.1, o8.2.2.1, o8.2.2.2.1, o8.2.2.2.2, o7.2.1, o7.2.2.1, o7.2.2.2.1, o7.2.2.2.2.1, o7.2.2.2.2.2))))))))))
set_option maxRecDepth 20000 in
theorem inX6_takesWord_X6 : ∀ w ∈ u_ws RX6 TX6 7, w ∈ wsX6_takesWord := fun w h => by
  obtain ⟨k, hk, rfl⟩ := List.mem_map.mp h
  have hk2 := List.mem_range.mp hk
  exact List.mem_of_getElem? (i := 37 + k) (by rcases (show k = 0 ∨ k = 1 ∨ k = 2 ∨ k = 3 ∨ k = 4 ∨ k = 5 ∨ k = 6 by omega) with rfl | rfl | rfl | rfl | rfl | rfl | rfl <;> rfl)
set_option maxRecDepth 20000 in
theorem inX6_takesWord_X9 : ∀ w ∈ u_ws RX9 TX9 14, w ∈ wsX6_takesWord := fun w h => by
  obtain ⟨k, hk, rfl⟩ := List.mem_map.mp h
  have hk2 := List.mem_range.mp hk
  exact List.mem_of_getElem? (i := 44 + k) (by rcases (show k = 0 ∨ k = 1 ∨ k = 2 ∨ k = 3 ∨ k = 4 ∨ k = 5 ∨ k = 6 ∨ k = 7 ∨ k = 8 ∨ k = 9 ∨ k = 10 ∨ k = 11 ∨ k = 12 ∨ k = 13 by omega) with rfl | rfl | rfl | rfl | rfl | rfl | rfl | rfl | rfl | rfl | rfl | rfl | rfl | rfl <;> rfl)
set_option maxRecDepth 100000 in
set_option maxHeartbeats 4000000 in
theorem mX6_takesWord (l : Launch) (dC : Nat → ClassId) (dI : Nat → Nat → Nat) (cI : ClassId) (q q_bytes q_a1 q_a1_ending q_a1_meaning q_a1_cost q_a1_alikeTo q_a1_kind q_a1_want q_a1_saidAhead q_a1_heardWord q_a1_heardAnswer : Nat) (m_length : Int32) (m_items : Int32) (m_place : Int32) (m_start : Int32) (m_token : Int32) (m_number : Int32) (m_bytes : Nat → Int32) (m_a1_words : Int32) (m_a1_people : Int32) (m_a1_said : Int32) (m_a1_undos : Int32) (m_a1_heard : Int32) (m_a1_ending : Nat → Int32) (m_a1_meaning : Nat → Int32) (m_a1_cost : Nat → Int32)   {N : Nat} {out : Int32 × Int32 × Int32 × Int32 × Int32 × Int32 × Int32 × (Nat → Int32) × (Nat → Int32) × (Nat → Int32)} (h : fX6_takesWord N m_length m_place m_start m_token m_number m_bytes m_a1_words m_a1_undos m_a1_ending m_a1_meaning m_a1_cost = some out) : gm_Met l yX6_takesWord wsX6_takesWord rX6_takesWord (dC, dI) [(cI, .int)] gm_T [.ref q, .ref q_a1] (wX6_takesWord cI q q_bytes q_a1 q_a1_ending q_a1_meaning q_a1_cost q_a1_alikeTo q_a1_kind q_a1_want q_a1_saidAhead q_a1_heardWord q_a1_heardAnswer m_length m_items m_place m_start m_token m_number m_bytes m_a1_words m_a1_people m_a1_said m_a1_undos m_a1_heard m_a1_ending m_a1_meaning m_a1_cost) (some (.int out.1)) (wX6_takesWord cI q q_bytes q_a1 q_a1_ending q_a1_meaning q_a1_cost q_a1_alikeTo q_a1_kind q_a1_want q_a1_saidAhead q_a1_heardWord q_a1_heardAnswer m_length m_items out.2.1 out.2.2.1 out.2.2.2.1 out.2.2.2.2.1 m_bytes out.2.2.2.2.2.1 m_a1_people m_a1_said out.2.2.2.2.2.2.1 m_a1_heard out.2.2.2.2.2.2.2.1 out.2.2.2.2.2.2.2.2.1 out.2.2.2.2.2.2.2.2.2) := by
  refine gm_ofW (cc := cX6_takesWord) (maxL := 4) (ret := (some .boolean)) (by decide +kernel) rfl (Nat.le_of_ble_eq_true rfl) ?_
  intro p e s m below meth c A C0 hH ls hl
  generalize ([.ref q, .ref q_a1] : List Value).toArray = args at C0 ⊢
  have hl : lv_has ls 4 [(0, .ref q), (1, .ref q_a1)] := hl
  generalize s.heap = H at hH ⊢
  generalize ([] : List Loc) = locs at hH ⊢
  obtain ⟨hx, hb, hml, hr, hown, hts, hA, hK, hX, hlocks⟩ := id C0
  unfold fX6_takesWord at h
  refine lv_aload_n hx hb dX6_takesWord_0 rfl (lv_at hl 0 rfl) ?_
  refine lv_bipush (v := 8) hx hb dX6_takesWord_1 (by decide) ?_
  obtain ⟨o1, ho1, h⟩ := gm_bind_e h
  refine gm_callV (As := [.int 8]) (rest := []) (n := 1) (ci := 6) (q0 := 0) C0 hH (mX6_takesBelow l dC dI cI q q_bytes m_length m_items m_place m_start m_token m_number m_bytes 8   ho1) gX6_takesWord_X6_takesBelow rfl (by decide +kernel) ⟨rfl, rfl, Nat.le_of_ble_eq_true rfl, Nat.le_of_ble_eq_true rfl⟩ gm_T_ok (fun _ => trivial) [0, 1] rfl rfl rfl [0] rfl rfl rfl rfl hl.1 rfl (Nat.le_of_ble_eq_true rfl) dX6_takesWord_3 ⟨Nat.zero_le _, Nat.zero_le _⟩ (fun H locs hH => ?_)
  have hH : gm_H (dC, dI) A s (wX6_takesWord cI q q_bytes q_a1 q_a1_ending q_a1_meaning q_a1_cost q_a1_alikeTo q_a1_kind q_a1_want q_a1_saidAhead q_a1_heardWord q_a1_heardAnswer m_length m_items o1.2.1 o1.2.2.1 o1.2.2.2.1 o1.2.2.2.2 m_bytes m_a1_words m_a1_people m_a1_said m_a1_undos m_a1_heard m_a1_ending m_a1_meaning m_a1_cost) H locs := hH
  refine lv_if_ne (tgt := 11) hx hb dX6_takesWord_6 (by decide) (fun hc2 => ?_) (fun hc2 => ?_)
  · replace h := gm_neg hc2 h
    refine lv_aload_n hx hb dX6_takesWord_11 rfl (lv_at hl 0 rfl) ?_
    refine gm_get (ci := 6) C0 hH inX6_takesWord_X6 0 6 1 rfl rfl (by decide) rfl rfl dX6_takesWord_12 ?_
    refine lv_istore_n (lv' := [(2, .int o1.2.2.2.2), (0, .ref q), (1, .ref q_a1)]) hx hb dX6_takesWord_15 rfl hl (by decide) rfl (fun ls hl => ?_)
    refine lv_aload_n hx hb dX6_takesWord_16 rfl (lv_at hl 1 rfl) ?_
    refine lv_bipush (v := 8) hx hb dX6_takesWord_17 (by decide) ?_
    obtain ⟨o3, ho3, h⟩ := gm_bind_e h
    refine gm_callV (As := [.int 8]) (rest := []) (n := 1) (ci := 6) (q0 := 0) C0 hH (mX6_takesBelow l dC dI cI q q_bytes m_length m_items o1.2.1 o1.2.2.1 o1.2.2.2.1 o1.2.2.2.2 m_bytes 8   ho3) gX6_takesWord_X6_takesBelow rfl (by decide +kernel) ⟨rfl, rfl, Nat.le_of_ble_eq_true rfl, Nat.le_of_ble_eq_true rfl⟩ gm_T_ok (fun _ => trivial) [0, 1] rfl rfl rfl [0] rfl rfl rfl rfl hl.1 rfl (Nat.le_of_ble_eq_true rfl) dX6_takesWord_19 ⟨Nat.zero_le _, Nat.zero_le _⟩ (fun H locs hH => ?_)
    have hH : gm_H (dC, dI) A s (wX6_takesWord cI q q_bytes q_a1 q_a1_ending q_a1_meaning q_a1_cost q_a1_alikeTo q_a1_kind q_a1_want q_a1_saidAhead q_a1_heardWord q_a1_heardAnswer m_length m_items o3.2.1 o3.2.2.1 o3.2.2.2.1 o3.2.2.2.2 m_bytes m_a1_words m_a1_people m_a1_said m_a1_undos m_a1_heard m_a1_ending m_a1_meaning m_a1_cost) H locs := hH
    refine lv_if_ne (tgt := 27) hx hb dX6_takesWord_22 (by decide) (fun hc4 => ?_) (fun hc4 => ?_)
    · replace h := gm_neg hc4 h
      refine lv_aload_n hx hb dX6_takesWord_27 rfl (lv_at hl 1 rfl) ?_
      refine gm_get (ci := 6) C0 hH inX6_takesWord_X6 0 6 1 rfl rfl (by decide) rfl rfl dX6_takesWord_28 ?_
      refine lv_istore_n (lv' := [(3, .int o3.2.2.2.2), (2, .int o1.2.2.2.2), (0, .ref q), (1, .ref q_a1)]) hx hb dX6_takesWord_31 rfl hl (by decide) rfl (fun ls hl => ?_)
      refine lv_aload_n hx hb dX6_takesWord_32 rfl (lv_at hl 2 rfl) ?_
      refine lv_bipush (v := 21) hx hb dX6_takesWord_33 (by decide) ?_
      obtain ⟨o5, ho5, h⟩ := gm_bind_e h
      refine gm_callV (As := [.int 21]) (rest := []) (n := 1) (ci := 6) (q0 := 0) C0 hH (mX6_takesBelow l dC dI cI q q_bytes m_length m_items o3.2.1 o3.2.2.1 o3.2.2.2.1 o3.2.2.2.2 m_bytes 21   ho5) gX6_takesWord_X6_takesBelow rfl (by decide +kernel) ⟨rfl, rfl, Nat.le_of_ble_eq_true rfl, Nat.le_of_ble_eq_true rfl⟩ gm_T_ok (fun _ => trivial) [0, 1] rfl rfl rfl [0] rfl rfl rfl rfl hl.1 rfl (Nat.le_of_ble_eq_true rfl) dX6_takesWord_35 ⟨Nat.zero_le _, Nat.zero_le _⟩ (fun H locs hH => ?_)
      have hH : gm_H (dC, dI) A s (wX6_takesWord cI q q_bytes q_a1 q_a1_ending q_a1_meaning q_a1_cost q_a1_alikeTo q_a1_kind q_a1_want q_a1_saidAhead q_a1_heardWord q_a1_heardAnswer m_length m_items o5.2.1 o5.2.2.1 o5.2.2.2.1 o5.2.2.2.2 m_bytes m_a1_words m_a1_people m_a1_said m_a1_undos m_a1_heard m_a1_ending m_a1_meaning m_a1_cost) H locs := hH
      refine lv_if_ne (tgt := 43) hx hb dX6_takesWord_38 (by decide) (fun hc6 => ?_) (fun hc6 => ?_)
      · replace h := gm_neg hc6 h
        refine lv_aload_n hx hb dX6_takesWord_43 rfl (lv_at hl 3 rfl) ?_
        refine lv_iload_n hx hb dX6_takesWord_44 rfl (lv_at hl 1 rfl) ?_
        refine lv_iload_n hx hb dX6_takesWord_45 rfl (lv_at hl 0 rfl) ?_
        refine lv_aload_n hx hb dX6_takesWord_46 rfl (lv_at hl 2 rfl) ?_
        refine gm_get (ci := 6) C0 hH inX6_takesWord_X6 0 6 1 rfl rfl (by decide) rfl rfl dX6_takesWord_47 ?_
        obtain ⟨o7, ho7, h⟩ := gm_bind_e h
        refine gm_callV (As := [.int o1.2.2.2.2, .int o3.2.2.2.2, .int o5.2.2.2.2]) (rest := []) (n := 3) (ci := 9) (q0 := 2) C0 hH (mX9_addWord l dC dI cI q_a1 q_a1_ending q_a1_meaning q_a1_cost q_a1_alikeTo q_a1_kind q_a1_want q_a1_saidAhead q_a1_heardWord q_a1_heardAnswer m_a1_words m_a1_people m_a1_said m_a1_undos m_a1_heard m_a1_ending m_a1_meaning m_a1_cost o1.2.2.2.2 o3.2.2.2.2 o5.2.2.2.2   ho7) gX6_takesWord_X9_addWord rfl (by decide +kernel) ⟨rfl, rfl, Nat.le_of_ble_eq_true rfl, Nat.le_of_ble_eq_true rfl⟩ gm_T_ok (fun _ => trivial) [2, 3, 4, 5] rfl rfl rfl [0] rfl rfl rfl rfl hl.1 rfl (Nat.le_of_ble_eq_true rfl) dX6_takesWord_50 ⟨Nat.zero_le _, Nat.zero_le _⟩ (fun H locs hH => ?_)
        simp only [wX6_takesWord, wX9_addWord, gm_sets, List.set_cons_succ, List.set_cons_zero] at hH
        have hH : gm_H (dC, dI) A s (wX6_takesWord cI q q_bytes q_a1 q_a1_ending q_a1_meaning q_a1_cost q_a1_alikeTo q_a1_kind q_a1_want q_a1_saidAhead q_a1_heardWord q_a1_heardAnswer m_length m_items o5.2.1 o5.2.2.1 o5.2.2.2.1 o5.2.2.2.2 m_bytes o7.2.1 m_a1_people m_a1_said o7.2.2.1 m_a1_heard o7.2.2.2.1 o7.2.2.2.2.1 o7.2.2.2.2.2) H locs := hH
        refine lv_pop hx hb dX6_takesWord_53 rfl ?_
        refine lv_aload_n hx hb dX6_takesWord_54 rfl (lv_at hl 2 rfl) ?_
        obtain ⟨o8, ho8, h⟩ := gm_bind_e h
        refine gm_callV (As := []) (rest := []) (n := 0) (ci := 6) (q0 := 0) C0 hH (mX6_takesStop l dC dI cI q q_bytes m_length m_items o5.2.1 o5.2.2.1 o5.2.2.2.1 o5.2.2.2.2 m_bytes    ho8) gX6_takesWord_X6_takesStop rfl (by decide +kernel) ⟨rfl, rfl, Nat.le_of_ble_eq_true rfl, Nat.le_of_ble_eq_true rfl⟩ gm_T_ok (fun _ => trivial) [0, 1] rfl rfl rfl [0] rfl rfl rfl rfl hl.1 rfl (Nat.le_of_ble_eq_true rfl) dX6_takesWord_55 ⟨Nat.zero_le _, Nat.zero_le _⟩ (fun H locs hH => ?_)
        have hH : gm_H (dC, dI) A s (wX6_takesWord cI q q_bytes q_a1 q_a1_ending q_a1_meaning q_a1_cost q_a1_alikeTo q_a1_kind q_a1_want q_a1_saidAhead q_a1_heardWord q_a1_heardAnswer m_length m_items o8.2.1 o8.2.2.1 o8.2.2.2.1 o8.2.2.2.2 m_bytes o7.2.1 m_a1_people m_a1_said o7.2.2.1 m_a1_heard o7.2.2.2.1 o7.2.2.2.2.1 o7.2.2.2.2.2) H locs := hH
        obtain ⟨hn9, h⟩ := gm_bl_e h
        obtain rfl := Option.some.inj h
        exact gm_zret C0 hH hn9 dX6_takesWord_58
      · replace h := gm_pos hc6 h
        refine lv_iconst (v := 0) hx hb dX6_takesWord_41 (by decide) ?_
        obtain rfl := Option.some.inj h
        exact gm_zret C0 hH (show narrow .boolean (.int 0) = .int 0 by decide) dX6_takesWord_42
    · replace h := gm_pos hc4 h
      refine lv_iconst (v := 0) hx hb dX6_takesWord_25 (by decide) ?_
      obtain rfl := Option.some.inj h
      exact gm_zret C0 hH (show narrow .boolean (.int 0) = .int 0 by decide) dX6_takesWord_26
  · replace h := gm_pos hc2 h
    refine lv_iconst (v := 0) hx hb dX6_takesWord_9 (by decide) ?_
    obtain rfl := Option.some.inj h
    exact gm_zret C0 hH (show narrow .boolean (.int 0) = .int 0 by decide) dX6_takesWord_10

/-! X6_takesAlike -/
abbrev wX6_takesAlike (cI : ClassId) (q q_bytes q_a1 q_a1_alikeTo q_a1_ending q_a1_meaning q_a1_cost q_a1_kind q_a1_want q_a1_saidAhead q_a1_heardWord q_a1_heardAnswer : Nat) (m_length : Int32) (m_items : Int32) (m_place : Int32) (m_start : Int32) (m_token : Int32) (m_number : Int32) (m_bytes : Nat → Int32) (m_a1_words : Int32) (m_a1_people : Int32) (m_a1_said : Int32) (m_a1_undos : Int32) (m_a1_heard : Int32) (m_a1_alikeTo : Nat → Int32) : va_W := [(q, .inr (6, [.ref q_bytes, .int m_length, .int m_items, .int m_place, .int m_start, .int m_token, .int m_number])), (q_bytes, .inl (cI, 150, .inl m_bytes)), (q_a1, .inr (9, [.ref q_a1_ending, .ref q_a1_meaning, .ref q_a1_cost, .int m_a1_words, .ref q_a1_alikeTo, .ref q_a1_kind, .ref q_a1_want, .int m_a1_people, .int m_a1_said, .ref q_a1_saidAhead, .int m_a1_undos, .ref q_a1_heardWord, .ref q_a1_heardAnswer, .int m_a1_heard])), (q_a1_alikeTo, .inl (cI, 8, .inl m_a1_alikeTo))]
abbrev rX6_takesAlike : Room := { frames := 3, cells := 0, slots := 0, locals := 62 }
def fX6_takesAlike (N : Nat) (m_length : Int32) (m_place : Int32) (m_start : Int32) (m_token : Int32) (m_number : Int32) (m_bytes : Nat → Int32) (m_a1_alikeTo : Nat → Int32)  : Option (Int32 × Int32 × Int32 × Int32 × Int32 × (Nat → Int32)) := gm_bind (fX6_takesBelow N m_length m_place m_start m_token m_number m_bytes 8) (fun o1 => (if o1.1 = 0 then some (0, o1.2.1, o1.2.2.1, o1.2.2.2.1, o1.2.2.2.2, m_a1_alikeTo) else gm_bind (fX6_takesBelow N m_length o1.2.1 o1.2.2.1 o1.2.2.2.1 o1.2.2.2.2 m_bytes 8) (fun o3 => (if o3.1 = 0 then some (0, o3.2.1, o3.2.2.1, o3.2.2.2.1, o3.2.2.2.2, m_a1_alikeTo) else (if o3.2.2.2.2 = o1.2.2.2.2 then some (0, o3.2.1, o3.2.2.1, o3.2.2.2.1, o3.2.2.2.2, m_a1_alikeTo) else gm_bind (fX9_setAlike N m_a1_alikeTo o1.2.2.2.2 o3.2.2.2.2 1) (fun o6 => gm_bind (fX6_takesStop N m_length o3.2.1 o3.2.2.1 o3.2.2.2.1 o3.2.2.2.2 m_bytes) (fun o7 => gm_bl o7.1 (some (o7.1, o7.2.1, o7.2.2.1, o7.2.2.2.1, o7.2.2.2.2, o6)))))))))
set_option maxRecDepth 20000 in
theorem inX6_takesAlike_X6 : ∀ w ∈ u_ws RX6 TX6 7, w ∈ wsX6_takesAlike := fun w h => by
  obtain ⟨k, hk, rfl⟩ := List.mem_map.mp h
  have hk2 := List.mem_range.mp hk
  exact List.mem_of_getElem? (i := 33 + k) (by rcases (show k = 0 ∨ k = 1 ∨ k = 2 ∨ k = 3 ∨ k = 4 ∨ k = 5 ∨ k = 6 by omega) with rfl | rfl | rfl | rfl | rfl | rfl | rfl <;> rfl)
set_option maxRecDepth 20000 in
theorem inX6_takesAlike_X9 : ∀ w ∈ u_ws RX9 TX9 14, w ∈ wsX6_takesAlike := fun w h => by
  obtain ⟨k, hk, rfl⟩ := List.mem_map.mp h
  have hk2 := List.mem_range.mp hk
  exact List.mem_of_getElem? (i := 40 + k) (by rcases (show k = 0 ∨ k = 1 ∨ k = 2 ∨ k = 3 ∨ k = 4 ∨ k = 5 ∨ k = 6 ∨ k = 7 ∨ k = 8 ∨ k = 9 ∨ k = 10 ∨ k = 11 ∨ k = 12 ∨ k = 13 by omega) with rfl | rfl | rfl | rfl | rfl | rfl | rfl | rfl | rfl | rfl | rfl | rfl | rfl | rfl <;> rfl)
set_option maxRecDepth 100000 in
set_option maxHeartbeats 4000000 in
theorem mX6_takesAlike (l : Launch) (dC : Nat → ClassId) (dI : Nat → Nat → Nat) (cI : ClassId) (q q_bytes q_a1 q_a1_alikeTo q_a1_ending q_a1_meaning q_a1_cost q_a1_kind q_a1_want q_a1_saidAhead q_a1_heardWord q_a1_heardAnswer : Nat) (m_length : Int32) (m_items : Int32) (m_place : Int32) (m_start : Int32) (m_token : Int32) (m_number : Int32) (m_bytes : Nat → Int32) (m_a1_words : Int32) (m_a1_people : Int32) (m_a1_said : Int32) (m_a1_undos : Int32) (m_a1_heard : Int32) (m_a1_alikeTo : Nat → Int32)   {N : Nat} {out : Int32 × Int32 × Int32 × Int32 × Int32 × (Nat → Int32)} (h : fX6_takesAlike N m_length m_place m_start m_token m_number m_bytes m_a1_alikeTo = some out) : gm_Met l yX6_takesAlike wsX6_takesAlike rX6_takesAlike (dC, dI) [(cI, .int)] gm_T [.ref q, .ref q_a1] (wX6_takesAlike cI q q_bytes q_a1 q_a1_alikeTo q_a1_ending q_a1_meaning q_a1_cost q_a1_kind q_a1_want q_a1_saidAhead q_a1_heardWord q_a1_heardAnswer m_length m_items m_place m_start m_token m_number m_bytes m_a1_words m_a1_people m_a1_said m_a1_undos m_a1_heard m_a1_alikeTo) (some (.int out.1)) (wX6_takesAlike cI q q_bytes q_a1 q_a1_alikeTo q_a1_ending q_a1_meaning q_a1_cost q_a1_kind q_a1_want q_a1_saidAhead q_a1_heardWord q_a1_heardAnswer m_length m_items out.2.1 out.2.2.1 out.2.2.2.1 out.2.2.2.2.1 m_bytes m_a1_words m_a1_people m_a1_said m_a1_undos m_a1_heard out.2.2.2.2.2) := by
  refine gm_ofW (cc := cX6_takesAlike) (maxL := 3) (ret := (some .boolean)) (by decide +kernel) rfl (Nat.le_of_ble_eq_true rfl) ?_
  intro p e s m below meth c A C0 hH ls hl
  generalize ([.ref q, .ref q_a1] : List Value).toArray = args at C0 ⊢
  have hl : lv_has ls 3 [(0, .ref q), (1, .ref q_a1)] := hl
  generalize s.heap = H at hH ⊢
  generalize ([] : List Loc) = locs at hH ⊢
  obtain ⟨hx, hb, hml, hr, hown, hts, hA, hK, hX, hlocks⟩ := id C0
  unfold fX6_takesAlike at h
  refine lv_aload_n hx hb dX6_takesAlike_0 rfl (lv_at hl 0 rfl) ?_
  refine lv_bipush (v := 8) hx hb dX6_takesAlike_1 (by decide) ?_
  obtain ⟨o1, ho1, h⟩ := gm_bind_e h
  refine gm_callV (As := [.int 8]) (rest := []) (n := 1) (ci := 6) (q0 := 0) C0 hH (mX6_takesBelow l dC dI cI q q_bytes m_length m_items m_place m_start m_token m_number m_bytes 8   ho1) gX6_takesAlike_X6_takesBelow rfl (by decide +kernel) ⟨rfl, rfl, Nat.le_of_ble_eq_true rfl, Nat.le_of_ble_eq_true rfl⟩ gm_T_ok (fun _ => trivial) [0, 1] rfl rfl rfl [0] rfl rfl rfl rfl hl.1 rfl (Nat.le_of_ble_eq_true rfl) dX6_takesAlike_3 ⟨Nat.zero_le _, Nat.zero_le _⟩ (fun H locs hH => ?_)
  have hH : gm_H (dC, dI) A s (wX6_takesAlike cI q q_bytes q_a1 q_a1_alikeTo q_a1_ending q_a1_meaning q_a1_cost q_a1_kind q_a1_want q_a1_saidAhead q_a1_heardWord q_a1_heardAnswer m_length m_items o1.2.1 o1.2.2.1 o1.2.2.2.1 o1.2.2.2.2 m_bytes m_a1_words m_a1_people m_a1_said m_a1_undos m_a1_heard m_a1_alikeTo) H locs := hH
  refine lv_if_ne (tgt := 11) hx hb dX6_takesAlike_6 (by decide) (fun hc2 => ?_) (fun hc2 => ?_)
  · replace h := gm_neg hc2 h
    refine lv_aload_n hx hb dX6_takesAlike_11 rfl (lv_at hl 0 rfl) ?_
    refine gm_get (ci := 6) C0 hH inX6_takesAlike_X6 0 6 1 rfl rfl (by decide) rfl rfl dX6_takesAlike_12 ?_
    refine lv_istore_n (lv' := [(2, .int o1.2.2.2.2), (0, .ref q), (1, .ref q_a1)]) hx hb dX6_takesAlike_15 rfl hl (by decide) rfl (fun ls hl => ?_)
    refine lv_aload_n hx hb dX6_takesAlike_16 rfl (lv_at hl 1 rfl) ?_
    refine lv_bipush (v := 8) hx hb dX6_takesAlike_17 (by decide) ?_
    obtain ⟨o3, ho3, h⟩ := gm_bind_e h
    refine gm_callV (As := [.int 8]) (rest := []) (n := 1) (ci := 6) (q0 := 0) C0 hH (mX6_takesBelow l dC dI cI q q_bytes m_length m_items o1.2.1 o1.2.2.1 o1.2.2.2.1 o1.2.2.2.2 m_bytes 8   ho3) gX6_takesAlike_X6_takesBelow rfl (by decide +kernel) ⟨rfl, rfl, Nat.le_of_ble_eq_true rfl, Nat.le_of_ble_eq_true rfl⟩ gm_T_ok (fun _ => trivial) [0, 1] rfl rfl rfl [0] rfl rfl rfl rfl hl.1 rfl (Nat.le_of_ble_eq_true rfl) dX6_takesAlike_19 ⟨Nat.zero_le _, Nat.zero_le _⟩ (fun H locs hH => ?_)
    have hH : gm_H (dC, dI) A s (wX6_takesAlike cI q q_bytes q_a1 q_a1_alikeTo q_a1_ending q_a1_meaning q_a1_cost q_a1_kind q_a1_want q_a1_saidAhead q_a1_heardWord q_a1_heardAnswer m_length m_items o3.2.1 o3.2.2.1 o3.2.2.2.1 o3.2.2.2.2 m_bytes m_a1_words m_a1_people m_a1_said m_a1_undos m_a1_heard m_a1_alikeTo) H locs := hH
    refine lv_if_eq (tgt := 33) hx hb dX6_takesAlike_22 (by decide) (fun hc4 => ?_) (fun hc4 => ?_)
    · replace h := gm_pos hc4 h
      refine lv_iconst (v := 0) hx hb dX6_takesAlike_33 (by decide) ?_
      obtain rfl := Option.some.inj h
      exact gm_zret C0 hH (show narrow .boolean (.int 0) = .int 0 by decide) dX6_takesAlike_34
    · replace h := gm_neg hc4 h
      refine lv_aload_n hx hb dX6_takesAlike_25 rfl (lv_at hl 1 rfl) ?_
      refine gm_get (ci := 6) C0 hH inX6_takesAlike_X6 0 6 1 rfl rfl (by decide) rfl rfl dX6_takesAlike_26 ?_
      refine lv_iload_n hx hb dX6_takesAlike_29 rfl (lv_at hl 0 rfl) ?_
      refine lv_icmp_ne (tgt := 35) hx hb dX6_takesAlike_30 (by decide) (fun hc5 => ?_) (fun hc5 => ?_)
      · replace h := gm_neg hc5 h
        refine lv_aload_n hx hb dX6_takesAlike_35 rfl (lv_at hl 2 rfl) ?_
        refine lv_iload_n hx hb dX6_takesAlike_36 rfl (lv_at hl 0 rfl) ?_
        refine lv_aload_n hx hb dX6_takesAlike_37 rfl (lv_at hl 1 rfl) ?_
        refine gm_get (ci := 6) C0 hH inX6_takesAlike_X6 0 6 1 rfl rfl (by decide) rfl rfl dX6_takesAlike_38 ?_
        refine lv_iconst (v := 1) hx hb dX6_takesAlike_41 (by decide) ?_
        obtain ⟨o6, ho6, h⟩ := gm_bind_e h
        refine gm_callV (As := [.int o1.2.2.2.2, .int o3.2.2.2.2, .int 1]) (rest := []) (n := 3) (ci := 9) (q0 := 2) C0 hH (mX9_setAlike l dC dI cI q_a1 q_a1_alikeTo q_a1_ending q_a1_meaning q_a1_cost q_a1_kind q_a1_want q_a1_saidAhead q_a1_heardWord q_a1_heardAnswer m_a1_words m_a1_people m_a1_said m_a1_undos m_a1_heard m_a1_alikeTo o1.2.2.2.2 o3.2.2.2.2 1   ho6) gX6_takesAlike_X9_setAlike rfl (by decide +kernel) ⟨rfl, rfl, Nat.le_of_ble_eq_true rfl, Nat.le_of_ble_eq_true rfl⟩ gm_T_ok (fun _ => trivial) [2, 3] rfl rfl rfl [0] rfl rfl rfl rfl hl.1 rfl (Nat.le_of_ble_eq_true rfl) dX6_takesAlike_42 ⟨Nat.zero_le _, Nat.zero_le _⟩ (fun H locs hH => ?_)
        have hH : gm_H (dC, dI) A s (wX6_takesAlike cI q q_bytes q_a1 q_a1_alikeTo q_a1_ending q_a1_meaning q_a1_cost q_a1_kind q_a1_want q_a1_saidAhead q_a1_heardWord q_a1_heardAnswer m_length m_items o3.2.1 o3.2.2.1 o3.2.2.2.1 o3.2.2.2.2 m_bytes m_a1_words m_a1_people m_a1_said m_a1_undos m_a1_heard o6) H locs := hH
        refine lv_aload_n hx hb dX6_takesAlike_45 rfl (lv_at hl 1 rfl) ?_
        obtain ⟨o7, ho7, h⟩ := gm_bind_e h
        refine gm_callV (As := []) (rest := []) (n := 0) (ci := 6) (q0 := 0) C0 hH (mX6_takesStop l dC dI cI q q_bytes m_length m_items o3.2.1 o3.2.2.1 o3.2.2.2.1 o3.2.2.2.2 m_bytes    ho7) gX6_takesAlike_X6_takesStop rfl (by decide +kernel) ⟨rfl, rfl, Nat.le_of_ble_eq_true rfl, Nat.le_of_ble_eq_true rfl⟩ gm_T_ok (fun _ => trivial) [0, 1] rfl rfl rfl [0] rfl rfl rfl rfl hl.1 rfl (Nat.le_of_ble_eq_true rfl) dX6_takesAlike_46 ⟨Nat.zero_le _, Nat.zero_le _⟩ (fun H locs hH => ?_)
        have hH : gm_H (dC, dI) A s (wX6_takesAlike cI q q_bytes q_a1 q_a1_alikeTo q_a1_ending q_a1_meaning q_a1_cost q_a1_kind q_a1_want q_a1_saidAhead q_a1_heardWord q_a1_heardAnswer m_length m_items o7.2.1 o7.2.2.1 o7.2.2.2.1 o7.2.2.2.2 m_bytes m_a1_words m_a1_people m_a1_said m_a1_undos m_a1_heard o6) H locs := hH
        obtain ⟨hn8, h⟩ := gm_bl_e h
        obtain rfl := Option.some.inj h
        exact gm_zret C0 hH hn8 dX6_takesAlike_49
      · replace h := gm_pos hc5 h
        refine lv_iconst (v := 0) hx hb dX6_takesAlike_33 (by decide) ?_
        obtain rfl := Option.some.inj h
        exact gm_zret C0 hH (show narrow .boolean (.int 0) = .int 0 by decide) dX6_takesAlike_34
  · replace h := gm_pos hc2 h
    refine lv_iconst (v := 0) hx hb dX6_takesAlike_9 (by decide) ?_
    obtain rfl := Option.some.inj h
    exact gm_zret C0 hH (show narrow .boolean (.int 0) = .int 0 by decide) dX6_takesAlike_10

/-! X6_takesPerson -/
abbrev wX6_takesPerson (cI : ClassId) (q q_bytes q_a1 q_a1_kind q_a1_want q_a1_ending q_a1_meaning q_a1_cost q_a1_alikeTo q_a1_saidAhead q_a1_heardWord q_a1_heardAnswer : Nat) (m_length : Int32) (m_items : Int32) (m_place : Int32) (m_start : Int32) (m_token : Int32) (m_number : Int32) (m_bytes : Nat → Int32) (m_a1_words : Int32) (m_a1_people : Int32) (m_a1_said : Int32) (m_a1_undos : Int32) (m_a1_heard : Int32) (m_a1_kind : Nat → Int32) (m_a1_want : Nat → Int32) : va_W := [(q, .inr (6, [.ref q_bytes, .int m_length, .int m_items, .int m_place, .int m_start, .int m_token, .int m_number])), (q_bytes, .inl (cI, 150, .inl m_bytes)), (q_a1, .inr (9, [.ref q_a1_ending, .ref q_a1_meaning, .ref q_a1_cost, .int m_a1_words, .ref q_a1_alikeTo, .ref q_a1_kind, .ref q_a1_want, .int m_a1_people, .int m_a1_said, .ref q_a1_saidAhead, .int m_a1_undos, .ref q_a1_heardWord, .ref q_a1_heardAnswer, .int m_a1_heard])), (q_a1_kind, .inl (cI, 5, .inl m_a1_kind)), (q_a1_want, .inl (cI, 5, .inl m_a1_want))]
abbrev rX6_takesPerson : Room := { frames := 3, cells := 0, slots := 0, locals := 62 }
def fX6_takesPerson (N : Nat) (m_length : Int32) (m_place : Int32) (m_start : Int32) (m_token : Int32) (m_number : Int32) (m_bytes : Nat → Int32) (m_a1_people : Int32) (m_a1_kind : Nat → Int32) (m_a1_want : Nat → Int32)  : Option (Int32 × Int32 × Int32 × Int32 × Int32 × Int32 × (Nat → Int32) × (Nat → Int32)) := gm_bind (fX6_takesBelow N m_length m_place m_start m_token m_number m_bytes 6) (fun o1 => (if o1.1 = 0 then some (0, o1.2.1, o1.2.2.1, o1.2.2.2.1, o1.2.2.2.2, m_a1_people, m_a1_kind, m_a1_want) else gm_bind (fX6_takesBelow N m_length o1.2.1 o1.2.2.1 o1.2.2.2.1 o1.2.2.2.2 m_bytes 8) (fun o3 => (if o3.1 = 0 then some (0, o3.2.1, o3.2.2.1, o3.2.2.2.1, o3.2.2.2.2, m_a1_people, m_a1_kind, m_a1_want) else gm_bind (fX9_addPerson N m_a1_people m_a1_kind m_a1_want o1.2.2.2.2 o3.2.2.2.2) (fun o5 => gm_bind (fX6_takesStop N m_length o3.2.1 o3.2.2.1 o3.2.2.2.1 o3.2.2.2.2 m_bytes) (fun o6 => gm_bl o6.1 (some (o6.1, o6.2.1, o6.2.2.1, o6.2.2.2.1, o6.2.2.2.2, o5.2.1, o5.2.2.1, o5.2.2.2))))))))
set_option maxRecDepth 20000 in
theorem inX6_takesPerson_X6 : ∀ w ∈ u_ws RX6 TX6 7, w ∈ wsX6_takesPerson := fun w h => by
  obtain ⟨k, hk, rfl⟩ := List.mem_map.mp h
  have hk2 := List.mem_range.mp hk
  exact List.mem_of_getElem? (i := 35 + k) (by rcases (show k = 0 ∨ k = 1 ∨ k = 2 ∨ k = 3 ∨ k = 4 ∨ k = 5 ∨ k = 6 by omega) with rfl | rfl | rfl | rfl | rfl | rfl | rfl <;> rfl)
set_option maxRecDepth 20000 in
theorem inX6_takesPerson_X9 : ∀ w ∈ u_ws RX9 TX9 14, w ∈ wsX6_takesPerson := fun w h => by
  obtain ⟨k, hk, rfl⟩ := List.mem_map.mp h
  have hk2 := List.mem_range.mp hk
  exact List.mem_of_getElem? (i := 42 + k) (by rcases (show k = 0 ∨ k = 1 ∨ k = 2 ∨ k = 3 ∨ k = 4 ∨ k = 5 ∨ k = 6 ∨ k = 7 ∨ k = 8 ∨ k = 9 ∨ k = 10 ∨ k = 11 ∨ k = 12 ∨ k = 13 by omega) with rfl | rfl | rfl | rfl | rfl | rfl | rfl | rfl | rfl | rfl | rfl | rfl | rfl | rfl <;> rfl)
set_option maxRecDepth 100000 in
set_option maxHeartbeats 4000000 in
theorem mX6_takesPerson (l : Launch) (dC : Nat → ClassId) (dI : Nat → Nat → Nat) (cI : ClassId) (q q_bytes q_a1 q_a1_kind q_a1_want q_a1_ending q_a1_meaning q_a1_cost q_a1_alikeTo q_a1_saidAhead q_a1_heardWord q_a1_heardAnswer : Nat) (m_length : Int32) (m_items : Int32) (m_place : Int32) (m_start : Int32) (m_token : Int32) (m_number : Int32) (m_bytes : Nat → Int32) (m_a1_words : Int32) (m_a1_people : Int32) (m_a1_said : Int32) (m_a1_undos : Int32) (m_a1_heard : Int32) (m_a1_kind : Nat → Int32) (m_a1_want : Nat → Int32)   {N : Nat} {out : Int32 × Int32 × Int32 × Int32 × Int32 × Int32 × (Nat → Int32) × (Nat → Int32)} (h : fX6_takesPerson N m_length m_place m_start m_token m_number m_bytes m_a1_people m_a1_kind m_a1_want = some out) : gm_Met l yX6_takesPerson wsX6_takesPerson rX6_takesPerson (dC, dI) [(cI, .int)] gm_T [.ref q, .ref q_a1] (wX6_takesPerson cI q q_bytes q_a1 q_a1_kind q_a1_want q_a1_ending q_a1_meaning q_a1_cost q_a1_alikeTo q_a1_saidAhead q_a1_heardWord q_a1_heardAnswer m_length m_items m_place m_start m_token m_number m_bytes m_a1_words m_a1_people m_a1_said m_a1_undos m_a1_heard m_a1_kind m_a1_want) (some (.int out.1)) (wX6_takesPerson cI q q_bytes q_a1 q_a1_kind q_a1_want q_a1_ending q_a1_meaning q_a1_cost q_a1_alikeTo q_a1_saidAhead q_a1_heardWord q_a1_heardAnswer m_length m_items out.2.1 out.2.2.1 out.2.2.2.1 out.2.2.2.2.1 m_bytes m_a1_words out.2.2.2.2.2.1 m_a1_said m_a1_undos m_a1_heard out.2.2.2.2.2.2.1 out.2.2.2.2.2.2.2) := by
  refine gm_ofW (cc := cX6_takesPerson) (maxL := 3) (ret := (some .boolean)) (by decide +kernel) rfl (Nat.le_of_ble_eq_true rfl) ?_
  intro p e s m below meth c A C0 hH ls hl
  generalize ([.ref q, .ref q_a1] : List Value).toArray = args at C0 ⊢
  have hl : lv_has ls 3 [(0, .ref q), (1, .ref q_a1)] := hl
  generalize s.heap = H at hH ⊢
  generalize ([] : List Loc) = locs at hH ⊢
  obtain ⟨hx, hb, hml, hr, hown, hts, hA, hK, hX, hlocks⟩ := id C0
  unfold fX6_takesPerson at h
  refine lv_aload_n hx hb dX6_takesPerson_0 rfl (lv_at hl 0 rfl) ?_
  refine lv_bipush (v := 6) hx hb dX6_takesPerson_1 (by decide) ?_
  obtain ⟨o1, ho1, h⟩ := gm_bind_e h
  refine gm_callV (As := [.int 6]) (rest := []) (n := 1) (ci := 6) (q0 := 0) C0 hH (mX6_takesBelow l dC dI cI q q_bytes m_length m_items m_place m_start m_token m_number m_bytes 6   ho1) gX6_takesPerson_X6_takesBelow rfl (by decide +kernel) ⟨rfl, rfl, Nat.le_of_ble_eq_true rfl, Nat.le_of_ble_eq_true rfl⟩ gm_T_ok (fun _ => trivial) [0, 1] rfl rfl rfl [0] rfl rfl rfl rfl hl.1 rfl (Nat.le_of_ble_eq_true rfl) dX6_takesPerson_3 ⟨Nat.zero_le _, Nat.zero_le _⟩ (fun H locs hH => ?_)
  have hH : gm_H (dC, dI) A s (wX6_takesPerson cI q q_bytes q_a1 q_a1_kind q_a1_want q_a1_ending q_a1_meaning q_a1_cost q_a1_alikeTo q_a1_saidAhead q_a1_heardWord q_a1_heardAnswer m_length m_items o1.2.1 o1.2.2.1 o1.2.2.2.1 o1.2.2.2.2 m_bytes m_a1_words m_a1_people m_a1_said m_a1_undos m_a1_heard m_a1_kind m_a1_want) H locs := hH
  refine lv_if_ne (tgt := 11) hx hb dX6_takesPerson_6 (by decide) (fun hc2 => ?_) (fun hc2 => ?_)
  · replace h := gm_neg hc2 h
    refine lv_aload_n hx hb dX6_takesPerson_11 rfl (lv_at hl 0 rfl) ?_
    refine gm_get (ci := 6) C0 hH inX6_takesPerson_X6 0 6 1 rfl rfl (by decide) rfl rfl dX6_takesPerson_12 ?_
    refine lv_istore_n (lv' := [(2, .int o1.2.2.2.2), (0, .ref q), (1, .ref q_a1)]) hx hb dX6_takesPerson_15 rfl hl (by decide) rfl (fun ls hl => ?_)
    refine lv_aload_n hx hb dX6_takesPerson_16 rfl (lv_at hl 1 rfl) ?_
    refine lv_bipush (v := 8) hx hb dX6_takesPerson_17 (by decide) ?_
    obtain ⟨o3, ho3, h⟩ := gm_bind_e h
    refine gm_callV (As := [.int 8]) (rest := []) (n := 1) (ci := 6) (q0 := 0) C0 hH (mX6_takesBelow l dC dI cI q q_bytes m_length m_items o1.2.1 o1.2.2.1 o1.2.2.2.1 o1.2.2.2.2 m_bytes 8   ho3) gX6_takesPerson_X6_takesBelow rfl (by decide +kernel) ⟨rfl, rfl, Nat.le_of_ble_eq_true rfl, Nat.le_of_ble_eq_true rfl⟩ gm_T_ok (fun _ => trivial) [0, 1] rfl rfl rfl [0] rfl rfl rfl rfl hl.1 rfl (Nat.le_of_ble_eq_true rfl) dX6_takesPerson_19 ⟨Nat.zero_le _, Nat.zero_le _⟩ (fun H locs hH => ?_)
    have hH : gm_H (dC, dI) A s (wX6_takesPerson cI q q_bytes q_a1 q_a1_kind q_a1_want q_a1_ending q_a1_meaning q_a1_cost q_a1_alikeTo q_a1_saidAhead q_a1_heardWord q_a1_heardAnswer m_length m_items o3.2.1 o3.2.2.1 o3.2.2.2.1 o3.2.2.2.2 m_bytes m_a1_words m_a1_people m_a1_said m_a1_undos m_a1_heard m_a1_kind m_a1_want) H locs := hH
    refine lv_if_ne (tgt := 27) hx hb dX6_takesPerson_22 (by decide) (fun hc4 => ?_) (fun hc4 => ?_)
    · replace h := gm_neg hc4 h
      refine lv_aload_n hx hb dX6_takesPerson_27 rfl (lv_at hl 2 rfl) ?_
      refine lv_iload_n hx hb dX6_takesPerson_28 rfl (lv_at hl 0 rfl) ?_
      refine lv_aload_n hx hb dX6_takesPerson_29 rfl (lv_at hl 1 rfl) ?_
      refine gm_get (ci := 6) C0 hH inX6_takesPerson_X6 0 6 1 rfl rfl (by decide) rfl rfl dX6_takesPerson_30 ?_
      obtain ⟨o5, ho5, h⟩ := gm_bind_e h
      refine gm_callV (As := [.int o1.2.2.2.2, .int o3.2.2.2.2]) (rest := []) (n := 2) (ci := 9) (q0 := 2) C0 hH (mX9_addPerson l dC dI cI q_a1 q_a1_kind q_a1_want q_a1_ending q_a1_meaning q_a1_cost q_a1_alikeTo q_a1_saidAhead q_a1_heardWord q_a1_heardAnswer m_a1_words m_a1_people m_a1_said m_a1_undos m_a1_heard m_a1_kind m_a1_want o1.2.2.2.2 o3.2.2.2.2   ho5) gX6_takesPerson_X9_addPerson rfl (by decide +kernel) ⟨rfl, rfl, Nat.le_of_ble_eq_true rfl, Nat.le_of_ble_eq_true rfl⟩ gm_T_ok (fun _ => trivial) [2, 3, 4] rfl rfl rfl [0] rfl rfl rfl rfl hl.1 rfl (Nat.le_of_ble_eq_true rfl) dX6_takesPerson_33 ⟨Nat.zero_le _, Nat.zero_le _⟩ (fun H locs hH => ?_)
      have hH : gm_H (dC, dI) A s (wX6_takesPerson cI q q_bytes q_a1 q_a1_kind q_a1_want q_a1_ending q_a1_meaning q_a1_cost q_a1_alikeTo q_a1_saidAhead q_a1_heardWord q_a1_heardAnswer m_length m_items o3.2.1 o3.2.2.1 o3.2.2.2.1 o3.2.2.2.2 m_bytes m_a1_words o5.2.1 m_a1_said m_a1_undos m_a1_heard o5.2.2.1 o5.2.2.2) H locs := hH
      refine lv_pop hx hb dX6_takesPerson_36 rfl ?_
      refine lv_aload_n hx hb dX6_takesPerson_37 rfl (lv_at hl 1 rfl) ?_
      obtain ⟨o6, ho6, h⟩ := gm_bind_e h
      refine gm_callV (As := []) (rest := []) (n := 0) (ci := 6) (q0 := 0) C0 hH (mX6_takesStop l dC dI cI q q_bytes m_length m_items o3.2.1 o3.2.2.1 o3.2.2.2.1 o3.2.2.2.2 m_bytes    ho6) gX6_takesPerson_X6_takesStop rfl (by decide +kernel) ⟨rfl, rfl, Nat.le_of_ble_eq_true rfl, Nat.le_of_ble_eq_true rfl⟩ gm_T_ok (fun _ => trivial) [0, 1] rfl rfl rfl [0] rfl rfl rfl rfl hl.1 rfl (Nat.le_of_ble_eq_true rfl) dX6_takesPerson_38 ⟨Nat.zero_le _, Nat.zero_le _⟩ (fun H locs hH => ?_)
      have hH : gm_H (dC, dI) A s (wX6_takesPerson cI q q_bytes q_a1 q_a1_kind q_a1_want q_a1_ending q_a1_meaning q_a1_cost q_a1_alikeTo q_a1_saidAhead q_a1_heardWord q_a1_heardAnswer m_length m_items o6.2.1 o6.2.2.1 o6.2.2.2.1 o6.2.2.2.2 m_bytes m_a1_words o5.2.1 m_a1_said m_a1_undos m_a1_heard o5.2.2.1 o5.2.2.2) H locs := hH
      obtain ⟨hn7, h⟩ := gm_bl_e h
      obtain rfl := Option.some.inj h
      exact gm_zret C0 hH hn7 dX6_takesPerson_41
    · replace h := gm_pos hc4 h
      refine lv_iconst (v := 0) hx hb dX6_takesPerson_25 (by decide) ?_
      obtain rfl := Option.some.inj h
      exact gm_zret C0 hH (show narrow .boolean (.int 0) = .int 0 by decide) dX6_takesPerson_26
  · replace h := gm_pos hc2 h
    refine lv_iconst (v := 0) hx hb dX6_takesPerson_9 (by decide) ?_
    obtain rfl := Option.some.inj h
    exact gm_zret C0 hH (show narrow .boolean (.int 0) = .int 0 by decide) dX6_takesPerson_10

/-! X6_takesItem -/
abbrev wX6_takesItem (cI : ClassId) (q q_bytes q_a1 q_a1_ending q_a1_meaning q_a1_cost q_a1_alikeTo q_a1_kind q_a1_want q_a1_saidAhead q_a1_heardWord q_a1_heardAnswer : Nat) (m_length : Int32) (m_items : Int32) (m_place : Int32) (m_start : Int32) (m_token : Int32) (m_number : Int32) (m_bytes : Nat → Int32) (m_a1_words : Int32) (m_a1_people : Int32) (m_a1_said : Int32) (m_a1_undos : Int32) (m_a1_heard : Int32) (m_a1_ending : Nat → Int32) (m_a1_meaning : Nat → Int32) (m_a1_cost : Nat → Int32) (m_a1_alikeTo : Nat → Int32) (m_a1_kind : Nat → Int32) (m_a1_want : Nat → Int32) : va_W := [(q, .inr (6, [.ref q_bytes, .int m_length, .int m_items, .int m_place, .int m_start, .int m_token, .int m_number])), (q_bytes, .inl (cI, 150, .inl m_bytes)), (q_a1, .inr (9, [.ref q_a1_ending, .ref q_a1_meaning, .ref q_a1_cost, .int m_a1_words, .ref q_a1_alikeTo, .ref q_a1_kind, .ref q_a1_want, .int m_a1_people, .int m_a1_said, .ref q_a1_saidAhead, .int m_a1_undos, .ref q_a1_heardWord, .ref q_a1_heardAnswer, .int m_a1_heard])), (q_a1_ending, .inl (cI, 10, .inl m_a1_ending)), (q_a1_meaning, .inl (cI, 10, .inl m_a1_meaning)), (q_a1_cost, .inl (cI, 10, .inl m_a1_cost)), (q_a1_alikeTo, .inl (cI, 8, .inl m_a1_alikeTo)), (q_a1_kind, .inl (cI, 5, .inl m_a1_kind)), (q_a1_want, .inl (cI, 5, .inl m_a1_want))]
abbrev rX6_takesItem : Room := { frames := 5, cells := 0, slots := 0, locals := 107 }
def fX6_takesItem (N : Nat) (m_length : Int32) (m_place : Int32) (m_start : Int32) (m_token : Int32) (m_number : Int32) (m_bytes : Nat → Int32) (m_a1_words : Int32) (m_a1_people : Int32) (m_a1_undos : Int32) (m_a1_ending : Nat → Int32) (m_a1_meaning : Nat → Int32) (m_a1_cost : Nat → Int32) (m_a1_alikeTo : Nat → Int32) (m_a1_kind : Nat → Int32) (m_a1_want : Nat → Int32)  : Option (Int32 × Int32 × Int32 × Int32 × Int32 × Int32 × Int32 × Int32 × (Nat → Int32) × (Nat → Int32) × (Nat → Int32) × (Nat → Int32) × (Nat → Int32) × (Nat → Int32)) := gm_bind (fX6_isLetters N m_place m_start m_token m_bytes 1) (fun o1 => (if o1 = 0 then gm_bind (fX6_isLetters N m_place m_start m_token m_bytes 2) (fun o3 => (if o3 = 0 then gm_bind (fX6_isLetters N m_place m_start m_token m_bytes 3) (fun o5 => (if o5 = 0 then some (0, m_place, m_start, m_token, m_number, m_a1_words, m_a1_people, m_a1_undos, m_a1_ending, m_a1_meaning, m_a1_cost, m_a1_alikeTo, m_a1_kind, m_a1_want) else (if 5 ≤ m_a1_people then some (0, m_place, m_start, m_token, m_number, m_a1_words, m_a1_people, m_a1_undos, m_a1_ending, m_a1_meaning, m_a1_cost, m_a1_alikeTo, m_a1_kind, m_a1_want) else gm_bind (fX6_takesPerson N m_length m_place m_start m_token m_number m_bytes m_a1_people m_a1_kind m_a1_want) (fun o8 => (if o8.1 = 0 then some (0, o8.2.1, o8.2.2.1, o8.2.2.2.1, o8.2.2.2.2.1, m_a1_words, o8.2.2.2.2.2.1, m_a1_undos, m_a1_ending, m_a1_meaning, m_a1_cost, m_a1_alikeTo, o8.2.2.2.2.2.2.1, o8.2.2.2.2.2.2.2) else some (1, o8.2.1, o8.2.2.1, o8.2.2.2.1, o8.2.2.2.2.1, m_a1_words, o8.2.2.2.2.2.1, m_a1_undos, m_a1_ending, m_a1_meaning, m_a1_cost, m_a1_alikeTo, o8.2.2.2.2.2.2.1, o8.2.2.2.2.2.2.2)))))) else gm_bind (fX6_takesAlike N m_length m_place m_start m_token m_number m_bytes m_a1_alikeTo) (fun o10 => gm_bl o10.1 (some (o10.1, o10.2.1, o10.2.2.1, o10.2.2.2.1, o10.2.2.2.2.1, m_a1_words, m_a1_people, m_a1_undos, m_a1_ending, m_a1_meaning, m_a1_cost, o10.2.2.2.2.2, m_a1_kind, m_a1_want))))) else (if 10 ≤ m_a1_words then some (0, m_place, m_start, m_token, m_number, m_a1_words, m_a1_people, m_a1_undos, m_a1_ending, m_a1_meaning, m_a1_cost, m_a1_alikeTo, m_a1_kind, m_a1_want) else gm_bind (fX6_takesWord N m_length m_place m_start m_token m_number m_bytes m_a1_words m_a1_undos m_a1_ending m_a1_meaning m_a1_cost) (fun o13 => (if o13.1 = 0 then some (0, o13.2.1, o13.2.2.1, o13.2.2.2.1, o13.2.2.2.2.1, o13.2.2.2.2.2.1, m_a1_people, o13.2.2.2.2.2.2.1, o13.2.2.2.2.2.2.2.1, o13.2.2.2.2.2.2.2.2.1, o13.2.2.2.2.2.2.2.2.2, m_a1_alikeTo, m_a1_kind, m_a1_want) else some (1, o13.2.1, o13.2.2.1, o13.2.2.2.1, o13.2.2.2.2.1, o13.2.2.2.2.2.1, m_a1_people, o13.2.2.2.2.2.2.1, o13.2.2.2.2.2.2.2.1, o13.2.2.2.2.2.2.2.2.1, o13.2.2.2.2.2.2.2.2.2, m_a1_alikeTo, m_a1_kind, m_a1_want))))))
set_option maxRecDepth 20000 in
theorem inX6_takesItem_X6 : ∀ w ∈ u_ws RX6 TX6 7, w ∈ wsX6_takesItem := fun w h => by
  obtain ⟨k, hk, rfl⟩ := List.mem_map.mp h
  have hk2 := List.mem_range.mp hk
  exact List.mem_of_getElem? (i := 130 + k) (by rcases (show k = 0 ∨ k = 1 ∨ k = 2 ∨ k = 3 ∨ k = 4 ∨ k = 5 ∨ k = 6 by omega) with rfl | rfl | rfl | rfl | rfl | rfl | rfl <;> rfl)
set_option maxRecDepth 20000 in
theorem inX6_takesItem_X9 : ∀ w ∈ u_ws RX9 TX9 14, w ∈ wsX6_takesItem := fun w h => by
  obtain ⟨k, hk, rfl⟩ := List.mem_map.mp h
  have hk2 := List.mem_range.mp hk
  exact List.mem_of_getElem? (i := 116 + k) (by rcases (show k = 0 ∨ k = 1 ∨ k = 2 ∨ k = 3 ∨ k = 4 ∨ k = 5 ∨ k = 6 ∨ k = 7 ∨ k = 8 ∨ k = 9 ∨ k = 10 ∨ k = 11 ∨ k = 12 ∨ k = 13 by omega) with rfl | rfl | rfl | rfl | rfl | rfl | rfl | rfl | rfl | rfl | rfl | rfl | rfl | rfl <;> rfl)
set_option maxRecDepth 100000 in
set_option maxHeartbeats 4000000 in
theorem mX6_takesItem (l : Launch) (dC : Nat → ClassId) (dI : Nat → Nat → Nat) (cI : ClassId) (q q_bytes q_a1 q_a1_ending q_a1_meaning q_a1_cost q_a1_alikeTo q_a1_kind q_a1_want q_a1_saidAhead q_a1_heardWord q_a1_heardAnswer : Nat) (m_length : Int32) (m_items : Int32) (m_place : Int32) (m_start : Int32) (m_token : Int32) (m_number : Int32) (m_bytes : Nat → Int32) (m_a1_words : Int32) (m_a1_people : Int32) (m_a1_said : Int32) (m_a1_undos : Int32) (m_a1_heard : Int32) (m_a1_ending : Nat → Int32) (m_a1_meaning : Nat → Int32) (m_a1_cost : Nat → Int32) (m_a1_alikeTo : Nat → Int32) (m_a1_kind : Nat → Int32) (m_a1_want : Nat → Int32)  (adK adV : Nat → Nat)  {N : Nat} {out : Int32 × Int32 × Int32 × Int32 × Int32 × Int32 × Int32 × Int32 × (Nat → Int32) × (Nat → Int32) × (Nat → Int32) × (Nat → Int32) × (Nat → Int32) × (Nat → Int32)} (h : fX6_takesItem N m_length m_place m_start m_token m_number m_bytes m_a1_words m_a1_people m_a1_undos m_a1_ending m_a1_meaning m_a1_cost m_a1_alikeTo m_a1_kind m_a1_want = some out) : gm_Met l yX6_takesItem wsX6_takesItem rX6_takesItem (dC, dI) [(cI, .int)] (gm_XR adK adV) [.ref q, .ref q_a1] (wX6_takesItem cI q q_bytes q_a1 q_a1_ending q_a1_meaning q_a1_cost q_a1_alikeTo q_a1_kind q_a1_want q_a1_saidAhead q_a1_heardWord q_a1_heardAnswer m_length m_items m_place m_start m_token m_number m_bytes m_a1_words m_a1_people m_a1_said m_a1_undos m_a1_heard m_a1_ending m_a1_meaning m_a1_cost m_a1_alikeTo m_a1_kind m_a1_want) (some (.int out.1)) (wX6_takesItem cI q q_bytes q_a1 q_a1_ending q_a1_meaning q_a1_cost q_a1_alikeTo q_a1_kind q_a1_want q_a1_saidAhead q_a1_heardWord q_a1_heardAnswer m_length m_items out.2.1 out.2.2.1 out.2.2.2.1 out.2.2.2.2.1 m_bytes out.2.2.2.2.2.1 out.2.2.2.2.2.2.1 m_a1_said out.2.2.2.2.2.2.2.1 m_a1_heard out.2.2.2.2.2.2.2.2.1 out.2.2.2.2.2.2.2.2.2.1 out.2.2.2.2.2.2.2.2.2.2.1 out.2.2.2.2.2.2.2.2.2.2.2.1 out.2.2.2.2.2.2.2.2.2.2.2.2.1 out.2.2.2.2.2.2.2.2.2.2.2.2.2) := by
  refine gm_ofW (cc := cX6_takesItem) (maxL := 2) (ret := (some .boolean)) (by decide +kernel) rfl (Nat.le_of_ble_eq_true rfl) ?_
  intro p e s m below meth c A C0 hH ls hl
  generalize ([.ref q, .ref q_a1] : List Value).toArray = args at C0 ⊢
  have hl : lv_has ls 2 [(0, .ref q), (1, .ref q_a1)] := hl
  generalize s.heap = H at hH ⊢
  generalize ([] : List Loc) = locs at hH ⊢
  obtain ⟨hx, hb, hml, hr, hown, hts, hA, hK, hX, hlocks⟩ := id C0
  unfold fX6_takesItem at h
  refine lv_aload_n hx hb dX6_takesItem_0 rfl (lv_at hl 0 rfl) ?_
  refine va_ldcS hx hb hown hX.2.1.2.1 dX6_takesItem_1 ?_
  obtain ⟨o1, ho1, h⟩ := gm_bind_e h
  refine gm_callV (As := [.ref (adK 1)]) (rest := []) (n := 1) (ci := 6) (q0 := 0) C0 hH (mX6_isLetters l dC dI cI q q_bytes m_length m_items m_place m_start m_token m_number m_bytes 1 adK adV (by decide) ho1) gX6_takesItem_X6_isLetters rfl (by decide +kernel) ⟨rfl, rfl, Nat.le_of_ble_eq_true rfl, Nat.le_of_ble_eq_true rfl⟩ (gm_XR_ok adK adV) (fun h => h) [0, 1] rfl rfl rfl [0] rfl rfl rfl rfl hl.1 rfl (Nat.le_of_ble_eq_true rfl) dX6_takesItem_3 ⟨Nat.zero_le _, Nat.zero_le _⟩ (fun H locs hH => ?_)
  have hH : gm_H (dC, dI) A s (wX6_takesItem cI q q_bytes q_a1 q_a1_ending q_a1_meaning q_a1_cost q_a1_alikeTo q_a1_kind q_a1_want q_a1_saidAhead q_a1_heardWord q_a1_heardAnswer m_length m_items m_place m_start m_token m_number m_bytes m_a1_words m_a1_people m_a1_said m_a1_undos m_a1_heard m_a1_ending m_a1_meaning m_a1_cost m_a1_alikeTo m_a1_kind m_a1_want) H locs := hH
  refine lv_if_eq (tgt := 32) hx hb dX6_takesItem_6 (by decide) (fun hc2 => ?_) (fun hc2 => ?_)
  · replace h := gm_pos hc2 h
    refine lv_aload_n hx hb dX6_takesItem_32 rfl (lv_at hl 0 rfl) ?_
    refine va_ldcS hx hb hown hX.2.1.2.2.1 dX6_takesItem_33 ?_
    obtain ⟨o3, ho3, h⟩ := gm_bind_e h
    refine gm_callV (As := [.ref (adK 2)]) (rest := []) (n := 1) (ci := 6) (q0 := 0) C0 hH (mX6_isLetters l dC dI cI q q_bytes m_length m_items m_place m_start m_token m_number m_bytes 2 adK adV (by decide) ho3) gX6_takesItem_X6_isLetters rfl (by decide +kernel) ⟨rfl, rfl, Nat.le_of_ble_eq_true rfl, Nat.le_of_ble_eq_true rfl⟩ (gm_XR_ok adK adV) (fun h => h) [0, 1] rfl rfl rfl [0] rfl rfl rfl rfl hl.1 rfl (Nat.le_of_ble_eq_true rfl) dX6_takesItem_35 ⟨Nat.zero_le _, Nat.zero_le _⟩ (fun H locs hH => ?_)
    have hH : gm_H (dC, dI) A s (wX6_takesItem cI q q_bytes q_a1 q_a1_ending q_a1_meaning q_a1_cost q_a1_alikeTo q_a1_kind q_a1_want q_a1_saidAhead q_a1_heardWord q_a1_heardAnswer m_length m_items m_place m_start m_token m_number m_bytes m_a1_words m_a1_people m_a1_said m_a1_undos m_a1_heard m_a1_ending m_a1_meaning m_a1_cost m_a1_alikeTo m_a1_kind m_a1_want) H locs := hH
    refine lv_if_eq (tgt := 47) hx hb dX6_takesItem_38 (by decide) (fun hc4 => ?_) (fun hc4 => ?_)
    · replace h := gm_pos hc4 h
      refine lv_aload_n hx hb dX6_takesItem_47 rfl (lv_at hl 0 rfl) ?_
      refine va_ldcS hx hb hown hX.2.1.2.2.2 dX6_takesItem_48 ?_
      obtain ⟨o5, ho5, h⟩ := gm_bind_e h
      refine gm_callV (As := [.ref (adK 3)]) (rest := []) (n := 1) (ci := 6) (q0 := 0) C0 hH (mX6_isLetters l dC dI cI q q_bytes m_length m_items m_place m_start m_token m_number m_bytes 3 adK adV (by decide) ho5) gX6_takesItem_X6_isLetters rfl (by decide +kernel) ⟨rfl, rfl, Nat.le_of_ble_eq_true rfl, Nat.le_of_ble_eq_true rfl⟩ (gm_XR_ok adK adV) (fun h => h) [0, 1] rfl rfl rfl [0] rfl rfl rfl rfl hl.1 rfl (Nat.le_of_ble_eq_true rfl) dX6_takesItem_50 ⟨Nat.zero_le _, Nat.zero_le _⟩ (fun H locs hH => ?_)
      have hH : gm_H (dC, dI) A s (wX6_takesItem cI q q_bytes q_a1 q_a1_ending q_a1_meaning q_a1_cost q_a1_alikeTo q_a1_kind q_a1_want q_a1_saidAhead q_a1_heardWord q_a1_heardAnswer m_length m_items m_place m_start m_token m_number m_bytes m_a1_words m_a1_people m_a1_said m_a1_undos m_a1_heard m_a1_ending m_a1_meaning m_a1_cost m_a1_alikeTo m_a1_kind m_a1_want) H locs := hH
      refine lv_if_eq (tgt := 78) hx hb dX6_takesItem_53 (by decide) (fun hc6 => ?_) (fun hc6 => ?_)
      · replace h := gm_pos hc6 h
        refine lv_iconst (v := 0) hx hb dX6_takesItem_78 (by decide) ?_
        obtain rfl := Option.some.inj h
        exact gm_zret C0 hH (show narrow .boolean (.int 0) = .int 0 by decide) dX6_takesItem_79
      · replace h := gm_neg hc6 h
        refine lv_aload_n hx hb dX6_takesItem_56 rfl (lv_at hl 1 rfl) ?_
        refine gm_get (ci := 9) C0 hH inX6_takesItem_X9 2 7 2 rfl rfl (by decide) rfl rfl dX6_takesItem_57 ?_
        refine lv_iconst (v := 5) hx hb dX6_takesItem_60 (by decide) ?_
        refine lv_icmp_ge (tgt := 76) hx hb dX6_takesItem_61 (by decide) (fun hc7 => ?_) (fun hc7 => ?_)
        · replace h := gm_pos hc7 h
          refine lv_iconst (v := 0) hx hb dX6_takesItem_76 (by decide) ?_
          obtain rfl := Option.some.inj h
          exact gm_zret C0 hH (show narrow .boolean (.int 0) = .int 0 by decide) dX6_takesItem_77
        · replace h := gm_neg hc7 h
          refine lv_aload_n hx hb dX6_takesItem_64 rfl (lv_at hl 0 rfl) ?_
          refine lv_aload_n hx hb dX6_takesItem_65 rfl (lv_at hl 1 rfl) ?_
          obtain ⟨o8, ho8, h⟩ := gm_bind_e h
          refine gm_callV (As := [.ref q_a1]) (rest := []) (n := 1) (ci := 6) (q0 := 0) C0 hH (mX6_takesPerson l dC dI cI q q_bytes q_a1 q_a1_kind q_a1_want q_a1_ending q_a1_meaning q_a1_cost q_a1_alikeTo q_a1_saidAhead q_a1_heardWord q_a1_heardAnswer m_length m_items m_place m_start m_token m_number m_bytes m_a1_words m_a1_people m_a1_said m_a1_undos m_a1_heard m_a1_kind m_a1_want    ho8) gX6_takesItem_X6_takesPerson rfl (by decide +kernel) ⟨rfl, rfl, Nat.le_of_ble_eq_true rfl, Nat.le_of_ble_eq_true rfl⟩ gm_T_ok (fun _ => trivial) [0, 1, 2, 7, 8] rfl rfl rfl [0] rfl rfl rfl rfl hl.1 rfl (Nat.le_of_ble_eq_true rfl) dX6_takesItem_66 ⟨Nat.zero_le _, Nat.zero_le _⟩ (fun H locs hH => ?_)
          simp only [wX6_takesItem, wX6_takesPerson, gm_sets, List.set_cons_succ, List.set_cons_zero] at hH
          have hH : gm_H (dC, dI) A s (wX6_takesItem cI q q_bytes q_a1 q_a1_ending q_a1_meaning q_a1_cost q_a1_alikeTo q_a1_kind q_a1_want q_a1_saidAhead q_a1_heardWord q_a1_heardAnswer m_length m_items o8.2.1 o8.2.2.1 o8.2.2.2.1 o8.2.2.2.2.1 m_bytes m_a1_words o8.2.2.2.2.2.1 m_a1_said m_a1_undos m_a1_heard m_a1_ending m_a1_meaning m_a1_cost m_a1_alikeTo o8.2.2.2.2.2.2.1 o8.2.2.2.2.2.2.2) H locs := hH
          refine lv_if_eq (tgt := 76) hx hb dX6_takesItem_69 (by decide) (fun hc9 => ?_) (fun hc9 => ?_)
          · replace h := gm_pos hc9 h
            refine lv_iconst (v := 0) hx hb dX6_takesItem_76 (by decide) ?_
            obtain rfl := Option.some.inj h
            exact gm_zret C0 hH (show narrow .boolean (.int 0) = .int 0 by decide) dX6_takesItem_77
          · replace h := gm_neg hc9 h
            refine lv_iconst (v := 1) hx hb dX6_takesItem_72 (by decide) ?_
            refine lv_goto (tgt := 77) hx hb dX6_takesItem_73 (by decide) ?_
            obtain rfl := Option.some.inj h
            exact gm_zret C0 hH (show narrow .boolean (.int 1) = .int 1 by decide) dX6_takesItem_77
    · replace h := gm_neg hc4 h
      refine lv_aload_n hx hb dX6_takesItem_41 rfl (lv_at hl 0 rfl) ?_
      refine lv_aload_n hx hb dX6_takesItem_42 rfl (lv_at hl 1 rfl) ?_
      obtain ⟨o10, ho10, h⟩ := gm_bind_e h
      refine gm_callV (As := [.ref q_a1]) (rest := []) (n := 1) (ci := 6) (q0 := 0) C0 hH (mX6_takesAlike l dC dI cI q q_bytes q_a1 q_a1_alikeTo q_a1_ending q_a1_meaning q_a1_cost q_a1_kind q_a1_want q_a1_saidAhead q_a1_heardWord q_a1_heardAnswer m_length m_items m_place m_start m_token m_number m_bytes m_a1_words m_a1_people m_a1_said m_a1_undos m_a1_heard m_a1_alikeTo    ho10) gX6_takesItem_X6_takesAlike rfl (by decide +kernel) ⟨rfl, rfl, Nat.le_of_ble_eq_true rfl, Nat.le_of_ble_eq_true rfl⟩ gm_T_ok (fun _ => trivial) [0, 1, 2, 6] rfl rfl rfl [0] rfl rfl rfl rfl hl.1 rfl (Nat.le_of_ble_eq_true rfl) dX6_takesItem_43 ⟨Nat.zero_le _, Nat.zero_le _⟩ (fun H locs hH => ?_)
      simp only [wX6_takesItem, wX6_takesAlike, gm_sets, List.set_cons_succ, List.set_cons_zero] at hH
      have hH : gm_H (dC, dI) A s (wX6_takesItem cI q q_bytes q_a1 q_a1_ending q_a1_meaning q_a1_cost q_a1_alikeTo q_a1_kind q_a1_want q_a1_saidAhead q_a1_heardWord q_a1_heardAnswer m_length m_items o10.2.1 o10.2.2.1 o10.2.2.2.1 o10.2.2.2.2.1 m_bytes m_a1_words m_a1_people m_a1_said m_a1_undos m_a1_heard m_a1_ending m_a1_meaning m_a1_cost o10.2.2.2.2.2 m_a1_kind m_a1_want) H locs := hH
      obtain ⟨hn11, h⟩ := gm_bl_e h
      obtain rfl := Option.some.inj h
      exact gm_zret C0 hH hn11 dX6_takesItem_46
  · replace h := gm_neg hc2 h
    refine lv_aload_n hx hb dX6_takesItem_9 rfl (lv_at hl 1 rfl) ?_
    refine gm_get (ci := 9) C0 hH inX6_takesItem_X9 2 3 1 rfl rfl (by decide) rfl rfl dX6_takesItem_10 ?_
    refine lv_bipush (v := 10) hx hb dX6_takesItem_13 (by decide) ?_
    refine lv_icmp_ge (tgt := 30) hx hb dX6_takesItem_15 (by decide) (fun hc12 => ?_) (fun hc12 => ?_)
    · replace h := gm_pos hc12 h
      refine lv_iconst (v := 0) hx hb dX6_takesItem_30 (by decide) ?_
      obtain rfl := Option.some.inj h
      exact gm_zret C0 hH (show narrow .boolean (.int 0) = .int 0 by decide) dX6_takesItem_31
    · replace h := gm_neg hc12 h
      refine lv_aload_n hx hb dX6_takesItem_18 rfl (lv_at hl 0 rfl) ?_
      refine lv_aload_n hx hb dX6_takesItem_19 rfl (lv_at hl 1 rfl) ?_
      obtain ⟨o13, ho13, h⟩ := gm_bind_e h
      refine gm_callV (As := [.ref q_a1]) (rest := []) (n := 1) (ci := 6) (q0 := 0) C0 hH (mX6_takesWord l dC dI cI q q_bytes q_a1 q_a1_ending q_a1_meaning q_a1_cost q_a1_alikeTo q_a1_kind q_a1_want q_a1_saidAhead q_a1_heardWord q_a1_heardAnswer m_length m_items m_place m_start m_token m_number m_bytes m_a1_words m_a1_people m_a1_said m_a1_undos m_a1_heard m_a1_ending m_a1_meaning m_a1_cost    ho13) gX6_takesItem_X6_takesWord rfl (by decide +kernel) ⟨rfl, rfl, Nat.le_of_ble_eq_true rfl, Nat.le_of_ble_eq_true rfl⟩ gm_T_ok (fun _ => trivial) [0, 1, 2, 3, 4, 5] rfl rfl rfl [0] rfl rfl rfl rfl hl.1 rfl (Nat.le_of_ble_eq_true rfl) dX6_takesItem_20 ⟨Nat.zero_le _, Nat.zero_le _⟩ (fun H locs hH => ?_)
      simp only [wX6_takesItem, wX6_takesWord, gm_sets, List.set_cons_succ, List.set_cons_zero] at hH
      have hH : gm_H (dC, dI) A s (wX6_takesItem cI q q_bytes q_a1 q_a1_ending q_a1_meaning q_a1_cost q_a1_alikeTo q_a1_kind q_a1_want q_a1_saidAhead q_a1_heardWord q_a1_heardAnswer m_length m_items o13.2.1 o13.2.2.1 o13.2.2.2.1 o13.2.2.2.2.1 m_bytes o13.2.2.2.2.2.1 m_a1_people m_a1_said o13.2.2.2.2.2.2.1 m_a1_heard o13.2.2.2.2.2.2.2.1 o13.2.2.2.2.2.2.2.2.1 o13.2.2.2.2.2.2.2.2.2 m_a1_alikeTo m_a1_kind m_a1_want) H locs := hH
      refine lv_if_eq (tgt := 30) hx hb dX6_takesItem_23 (by decide) (fun hc14 => ?_) (fun hc14 => ?_)
      · replace h := gm_pos hc14 h
        refine lv_iconst (v := 0) hx hb dX6_takesItem_30 (by decide) ?_
        obtain rfl := Option.some.inj h
        exact gm_zret C0 hH (show narrow .boolean (.int 0) = .int 0 by decide) dX6_takesItem_31
      · replace h := gm_neg hc14 h
        refine lv_iconst (v := 1) hx hb dX6_takesItem_26 (by decide) ?_
        refine lv_goto (tgt := 31) hx hb dX6_takesItem_27 (by decide) ?_
        obtain rfl := Option.some.inj h
        exact gm_zret C0 hH (show narrow .boolean (.int 1) = .int 1 by decide) dX6_takesItem_31

/-! X6_parseInto -/
abbrev wX6_parseInto (cI : ClassId) (q q_bytes q_a1 q_a1_ending q_a1_meaning q_a1_cost q_a1_alikeTo q_a1_kind q_a1_want q_a1_saidAhead q_a1_heardWord q_a1_heardAnswer : Nat) (m_length : Int32) (m_items : Int32) (m_place : Int32) (m_start : Int32) (m_token : Int32) (m_number : Int32) (m_bytes : Nat → Int32) (m_a1_words : Int32) (m_a1_people : Int32) (m_a1_said : Int32) (m_a1_undos : Int32) (m_a1_heard : Int32) (m_a1_ending : Nat → Int32) (m_a1_meaning : Nat → Int32) (m_a1_cost : Nat → Int32) (m_a1_alikeTo : Nat → Int32) (m_a1_kind : Nat → Int32) (m_a1_want : Nat → Int32) : va_W := [(q, .inr (6, [.ref q_bytes, .int m_length, .int m_items, .int m_place, .int m_start, .int m_token, .int m_number])), (q_bytes, .inl (cI, 150, .inl m_bytes)), (q_a1, .inr (9, [.ref q_a1_ending, .ref q_a1_meaning, .ref q_a1_cost, .int m_a1_words, .ref q_a1_alikeTo, .ref q_a1_kind, .ref q_a1_want, .int m_a1_people, .int m_a1_said, .ref q_a1_saidAhead, .int m_a1_undos, .ref q_a1_heardWord, .ref q_a1_heardAnswer, .int m_a1_heard])), (q_a1_ending, .inl (cI, 10, .inl m_a1_ending)), (q_a1_meaning, .inl (cI, 10, .inl m_a1_meaning)), (q_a1_cost, .inl (cI, 10, .inl m_a1_cost)), (q_a1_alikeTo, .inl (cI, 8, .inl m_a1_alikeTo)), (q_a1_kind, .inl (cI, 5, .inl m_a1_kind)), (q_a1_want, .inl (cI, 5, .inl m_a1_want))]
abbrev rX6_parseInto : Room := { frames := 6, cells := 0, slots := 0, locals := 128 }
def fX6_parseInto_b41_body (N : Nat)  (m_length : Int32) (m_bytes : Nat → Int32) (m_a1_said : Int32) (m_a1_heard : Int32) (r41 : Int32 → Int32 → Int32 → Int32 → Int32 → Int32 → Int32 → Int32 → (Nat → Int32) → (Nat → Int32) → (Nat → Int32) → (Nat → Int32) → (Nat → Int32) → (Nat → Int32) → Int32 → Option (Int32 × Int32 × Int32 × Int32 × Int32 × Int32 × Int32 × Int32 × Int32 × Int32 × Int32 × (Nat → Int32) × (Nat → Int32) × (Nat → Int32) × (Nat → Int32) × (Nat → Int32) × (Nat → Int32))) (m_items : Int32) (m_place : Int32) (m_start : Int32) (m_token : Int32) (m_number : Int32) (m_a1_words : Int32) (m_a1_people : Int32) (m_a1_undos : Int32) (m_a1_ending : Nat → Int32) (m_a1_meaning : Nat → Int32) (m_a1_cost : Nat → Int32) (m_a1_alikeTo : Nat → Int32) (m_a1_kind : Nat → Int32) (m_a1_want : Nat → Int32) (x2 : Int32) : Option (Int32 × Int32 × Int32 × Int32 × Int32 × Int32 × Int32 × Int32 × Int32 × Int32 × Int32 × (Nat → Int32) × (Nat → Int32) × (Nat → Int32) × (Nat → Int32) × (Nat → Int32) × (Nat → Int32)) := (if 150 ≤ x2 then some ((-1), m_items, m_place, m_start, m_token, m_number, m_a1_words, m_a1_people, m_a1_said, m_a1_undos, m_a1_heard, m_a1_ending, m_a1_meaning, m_a1_cost, m_a1_alikeTo, m_a1_kind, m_a1_want) else gm_bind (fX6_take N m_length m_place m_start m_token m_number m_bytes) (fun o8 => (if o8.2.2.1 = 0 then some ((-1), m_items, o8.1, o8.2.1, o8.2.2.1, o8.2.2.2, m_a1_words, m_a1_people, m_a1_said, m_a1_undos, m_a1_heard, m_a1_ending, m_a1_meaning, m_a1_cost, m_a1_alikeTo, m_a1_kind, m_a1_want) else gm_bind (fX6_takesItem N m_length o8.1 o8.2.1 o8.2.2.1 o8.2.2.2 m_bytes m_a1_words m_a1_people m_a1_undos m_a1_ending m_a1_meaning m_a1_cost m_a1_alikeTo m_a1_kind m_a1_want) (fun o10 => (if o10.1 = 0 then some (o10.2.2.1, m_items, o10.2.1, o10.2.2.1, o10.2.2.2.1, o10.2.2.2.2.1, o10.2.2.2.2.2.1, o10.2.2.2.2.2.2.1, m_a1_said, o10.2.2.2.2.2.2.2.1, m_a1_heard, o10.2.2.2.2.2.2.2.2.1, o10.2.2.2.2.2.2.2.2.2.1, o10.2.2.2.2.2.2.2.2.2.2.1, o10.2.2.2.2.2.2.2.2.2.2.2.1, o10.2.2.2.2.2.2.2.2.2.2.2.2.1, o10.2.2.2.2.2.2.2.2.2.2.2.2.2) else gm_let ((m_items + 1) : Int32) (fun (v12 : Int32) => (r41 v12 o10.2.1 o10.2.2.1 o10.2.2.2.1 o10.2.2.2.2.1 o10.2.2.2.2.2.1 o10.2.2.2.2.2.2.1 o10.2.2.2.2.2.2.2.1 o10.2.2.2.2.2.2.2.2.1 o10.2.2.2.2.2.2.2.2.2.1 o10.2.2.2.2.2.2.2.2.2.2.1 o10.2.2.2.2.2.2.2.2.2.2.2.1 o10.2.2.2.2.2.2.2.2.2.2.2.2.1 o10.2.2.2.2.2.2.2.2.2.2.2.2.2 ((x2 + 1)))))))))
def fX6_parseInto_b41 (N : Nat)  (m_length : Int32) (m_bytes : Nat → Int32) (m_a1_said : Int32) (m_a1_heard : Int32) (m_items : Int32) (m_place : Int32) (m_start : Int32) (m_token : Int32) (m_number : Int32) (m_a1_words : Int32) (m_a1_people : Int32) (m_a1_undos : Int32) (m_a1_ending : Nat → Int32) (m_a1_meaning : Nat → Int32) (m_a1_cost : Nat → Int32) (m_a1_alikeTo : Nat → Int32) (m_a1_kind : Nat → Int32) (m_a1_want : Nat → Int32) (x2 : Int32) : Option (Int32 × Int32 × Int32 × Int32 × Int32 × Int32 × Int32 × Int32 × Int32 × Int32 × Int32 × (Nat → Int32) × (Nat → Int32) × (Nat → Int32) × (Nat → Int32) × (Nat → Int32) × (Nat → Int32)) := gm_fix (fX6_parseInto_b41_body N  m_length m_bytes m_a1_said m_a1_heard) (fun _ _ _ _ _ _ _ _ _ _ _ _ _ _ _ => none) N m_items m_place m_start m_token m_number m_a1_words m_a1_people m_a1_undos m_a1_ending m_a1_meaning m_a1_cost m_a1_alikeTo m_a1_kind m_a1_want x2
def fX6_parseInto (N : Nat) (m_length : Int32) (m_items : Int32) (m_place : Int32) (m_start : Int32) (m_token : Int32) (m_number : Int32) (m_bytes : Nat → Int32) (m_a1_words : Int32) (m_a1_people : Int32) (m_a1_said : Int32) (m_a1_undos : Int32) (m_a1_heard : Int32) (m_a1_ending : Nat → Int32) (m_a1_meaning : Nat → Int32) (m_a1_cost : Nat → Int32) (m_a1_alikeTo : Nat → Int32) (m_a1_kind : Nat → Int32) (m_a1_want : Nat → Int32)  : Option (Int32 × Int32 × Int32 × Int32 × Int32 × Int32 × Int32 × Int32 × Int32 × Int32 × Int32 × (Nat → Int32) × (Nat → Int32) × (Nat → Int32) × (Nat → Int32) × (Nat → Int32) × (Nat → Int32)) := gm_bind (fX9_empty N m_a1_words m_a1_people m_a1_said m_a1_undos m_a1_heard m_a1_alikeTo) (fun o1 => gm_bind (fX6_take N m_length 0 m_start m_token m_number m_bytes) (fun o2 => gm_bind (fX6_isLetters N o2.1 o2.2.1 o2.2.2.1 m_bytes 0) (fun o3 => (if o3 = 0 then some (o2.2.1, m_items, o2.1, o2.2.1, o2.2.2.1, o2.2.2.2, o1.1, o1.2.1, o1.2.2.1, o1.2.2.2.1, o1.2.2.2.2.1, m_a1_ending, m_a1_meaning, m_a1_cost, o1.2.2.2.2.2, m_a1_kind, m_a1_want) else gm_bind (fX6_takesStop N m_length o2.1 o2.2.1 o2.2.2.1 o2.2.2.2 m_bytes) (fun o5 => (if o5.1 = 0 then some (o5.2.2.1, m_items, o5.2.1, o5.2.2.1, o5.2.2.2.1, o5.2.2.2.2, o1.1, o1.2.1, o1.2.2.1, o1.2.2.2.1, o1.2.2.2.2.1, m_a1_ending, m_a1_meaning, m_a1_cost, o1.2.2.2.2.2, m_a1_kind, m_a1_want) else (fX6_parseInto_b41 N  m_length m_bytes o1.2.2.1 o1.2.2.2.2.1 1 o5.2.1 o5.2.2.1 o5.2.2.2.1 o5.2.2.2.2 o1.1 o1.2.1 o1.2.2.2.1 m_a1_ending m_a1_meaning m_a1_cost o1.2.2.2.2.2 m_a1_kind m_a1_want 0)))))))
set_option maxRecDepth 20000 in
theorem inX6_parseInto_X6 : ∀ w ∈ u_ws RX6 TX6 7, w ∈ wsX6_parseInto := fun w h => by
  obtain ⟨k, hk, rfl⟩ := List.mem_map.mp h
  have hk2 := List.mem_range.mp hk
  exact List.mem_of_getElem? (i := 127 + k) (by rcases (show k = 0 ∨ k = 1 ∨ k = 2 ∨ k = 3 ∨ k = 4 ∨ k = 5 ∨ k = 6 by omega) with rfl | rfl | rfl | rfl | rfl | rfl | rfl <;> rfl)
set_option maxRecDepth 20000 in
theorem inX6_parseInto_X9 : ∀ w ∈ u_ws RX9 TX9 14, w ∈ wsX6_parseInto := fun w h => by
  obtain ⟨k, hk, rfl⟩ := List.mem_map.mp h
  have hk2 := List.mem_range.mp hk
  exact List.mem_of_getElem? (i := 134 + k) (by rcases (show k = 0 ∨ k = 1 ∨ k = 2 ∨ k = 3 ∨ k = 4 ∨ k = 5 ∨ k = 6 ∨ k = 7 ∨ k = 8 ∨ k = 9 ∨ k = 10 ∨ k = 11 ∨ k = 12 ∨ k = 13 by omega) with rfl | rfl | rfl | rfl | rfl | rfl | rfl | rfl | rfl | rfl | rfl | rfl | rfl | rfl <;> rfl)
set_option maxRecDepth 100000 in
set_option maxHeartbeats 4000000 in
theorem tX6_parseInto_b41 {p : Program} {l : Launch} {e : Env} {s : State} {m : MethodId} {args : Array Value} {below : List Frame} {meth : Method} {c : Code} {A : Nat → Prop} {dC : Nat → ClassId} {dI : Nat → Nat → Nat} {cI : ClassId} {q q_bytes q_a1 q_a1_ending q_a1_meaning q_a1_cost q_a1_alikeTo q_a1_kind q_a1_want q_a1_saidAhead q_a1_heardWord q_a1_heardAnswer : Nat} {adK adV : Nat → Nat} {m_length : Int32} {m_bytes : Nat → Int32} {m_a1_said : Int32} {m_a1_heard : Int32} (C0 : gm_C p s m args meth c (dC, dI) [(cI, .int)] A (gm_XR adK adV) RX6 cX6_parseInto 3 (some .int) wsX6_parseInto) {N : Nat} {out : Int32 × Int32 × Int32 × Int32 × Int32 × Int32 × Int32 × Int32 × Int32 × Int32 × Int32 × (Nat → Int32) × (Nat → Int32) × (Nat → Int32) × (Nat → Int32) × (Nat → Int32) × (Nat → Int32)}   : ∀ (n : Nat), ∀ (m_items : Int32) (m_place : Int32) (m_start : Int32) (m_token : Int32) (m_number : Int32) (m_a1_words : Int32) (m_a1_people : Int32) (m_a1_undos : Int32) (m_a1_ending : Nat → Int32) (m_a1_meaning : Nat → Int32) (m_a1_cost : Nat → Int32) (m_a1_alikeTo : Nat → Int32) (m_a1_kind : Nat → Int32) (m_a1_want : Nat → Int32) (x2 : Int32) (H : Heap) (locs : List Loc) (ls : Array Slot), (gm_fix (fX6_parseInto_b41_body N  m_length m_bytes m_a1_said m_a1_heard) (fun _ _ _ _ _ _ _ _ _ _ _ _ _ _ _ => none) n) m_items m_place m_start m_token m_number m_a1_words m_a1_people m_a1_undos m_a1_ending m_a1_meaning m_a1_cost m_a1_alikeTo m_a1_kind m_a1_want x2 = some out → gm_H (dC, dI) A s (wX6_parseInto cI q q_bytes q_a1 q_a1_ending q_a1_meaning q_a1_cost q_a1_alikeTo q_a1_kind q_a1_want q_a1_saidAhead q_a1_heardWord q_a1_heardAnswer m_length m_items m_place m_start m_token m_number m_bytes m_a1_words m_a1_people m_a1_said m_a1_undos m_a1_heard m_a1_ending m_a1_meaning m_a1_cost m_a1_alikeTo m_a1_kind m_a1_want) H locs → lv_has ls 3 [(0, .ref q), (1, .ref q_a1), (2, .int x2)] → W p l e rX6_parseInto s m args below meth c H locs 0 0 (MQ below (gm_Q (dC, dI) [(cI, .int)] A (some (.int out.1)) (wX6_parseInto cI q q_bytes q_a1 q_a1_ending q_a1_meaning q_a1_cost q_a1_alikeTo q_a1_kind q_a1_want q_a1_saidAhead q_a1_heardWord q_a1_heardAnswer m_length out.2.1 out.2.2.1 out.2.2.2.1 out.2.2.2.2.1 out.2.2.2.2.2.1 m_bytes out.2.2.2.2.2.2.1 out.2.2.2.2.2.2.2.1 out.2.2.2.2.2.2.2.2.1 out.2.2.2.2.2.2.2.2.2.1 out.2.2.2.2.2.2.2.2.2.2.1 out.2.2.2.2.2.2.2.2.2.2.2.1 out.2.2.2.2.2.2.2.2.2.2.2.2.1 out.2.2.2.2.2.2.2.2.2.2.2.2.2.1 out.2.2.2.2.2.2.2.2.2.2.2.2.2.2.1 out.2.2.2.2.2.2.2.2.2.2.2.2.2.2.2.1 out.2.2.2.2.2.2.2.2.2.2.2.2.2.2.2.2)) args s 0 0 A) (F0 m 41 ls []) := by
  obtain ⟨hx, hb, hml, hr, hown, hts, hA, hK, hX, hlocks⟩ := id C0
  intro n
  induction n with
  | zero =>
    intro m_items m_place m_start m_token m_number m_a1_words m_a1_people m_a1_undos m_a1_ending m_a1_meaning m_a1_cost m_a1_alikeTo m_a1_kind m_a1_want x2 H locs ls h hH hl
    cases h
  | succ n hr41 =>
    intro m_items m_place m_start m_token m_number m_a1_words m_a1_people m_a1_undos m_a1_ending m_a1_meaning m_a1_cost m_a1_alikeTo m_a1_kind m_a1_want x2 H locs ls h hH hl
    rw [gm_fix_s] at h
    unfold fX6_parseInto_b41_body at h
    refine lv_iload_n hx hb dX6_parseInto_41 rfl (lv_at hl 2 rfl) ?_
    refine lv_sipush (v := 150) hx hb dX6_parseInto_42 (by decide) ?_
    refine lv_icmp_ge (tgt := 90) hx hb dX6_parseInto_45 (by decide) (fun hc7 => ?_) (fun hc7 => ?_)
    · replace h := gm_pos hc7 h
      refine lv_iconst (v := (-1)) hx hb dX6_parseInto_90 (by decide) ?_
      obtain rfl := Option.some.inj h
      exact gm_iret C0 hH dX6_parseInto_91
    · replace h := gm_neg hc7 h
      refine lv_aload_n hx hb dX6_parseInto_48 rfl (lv_at hl 0 rfl) ?_
      obtain ⟨o8, ho8, h⟩ := gm_bind_e h
      refine gm_callV (As := []) (rest := []) (n := 0) (ci := 6) (q0 := 0) C0 hH (mX6_take l dC dI cI q q_bytes m_length m_items m_place m_start m_token m_number m_bytes    ho8) gX6_parseInto_X6_take rfl (by decide +kernel) ⟨rfl, rfl, Nat.le_of_ble_eq_true rfl, Nat.le_of_ble_eq_true rfl⟩ gm_T_ok (fun _ => trivial) [0, 1] rfl rfl rfl [0] rfl rfl rfl rfl hl.1 rfl (Nat.le_of_ble_eq_true rfl) dX6_parseInto_49 ⟨Nat.zero_le _, Nat.zero_le _⟩ (fun H locs hH => ?_)
      have hH : gm_H (dC, dI) A s (wX6_parseInto cI q q_bytes q_a1 q_a1_ending q_a1_meaning q_a1_cost q_a1_alikeTo q_a1_kind q_a1_want q_a1_saidAhead q_a1_heardWord q_a1_heardAnswer m_length m_items o8.1 o8.2.1 o8.2.2.1 o8.2.2.2 m_bytes m_a1_words m_a1_people m_a1_said m_a1_undos m_a1_heard m_a1_ending m_a1_meaning m_a1_cost m_a1_alikeTo m_a1_kind m_a1_want) H locs := hH
      refine lv_aload_n hx hb dX6_parseInto_52 rfl (lv_at hl 0 rfl) ?_
      refine gm_get (ci := 6) C0 hH inX6_parseInto_X6 0 5 4 rfl rfl (by decide) rfl rfl dX6_parseInto_53 ?_
      refine lv_if_ne (tgt := 61) hx hb dX6_parseInto_56 (by decide) (fun hc9 => ?_) (fun hc9 => ?_)
      · replace h := gm_neg hc9 h
        refine lv_aload_n hx hb dX6_parseInto_61 rfl (lv_at hl 0 rfl) ?_
        refine lv_aload_n hx hb dX6_parseInto_62 rfl (lv_at hl 1 rfl) ?_
        obtain ⟨o10, ho10, h⟩ := gm_bind_e h
        refine gm_callV (As := [.ref q_a1]) (rest := []) (n := 1) (ci := 6) (q0 := 0) C0 hH (mX6_takesItem l dC dI cI q q_bytes q_a1 q_a1_ending q_a1_meaning q_a1_cost q_a1_alikeTo q_a1_kind q_a1_want q_a1_saidAhead q_a1_heardWord q_a1_heardAnswer m_length m_items o8.1 o8.2.1 o8.2.2.1 o8.2.2.2 m_bytes m_a1_words m_a1_people m_a1_said m_a1_undos m_a1_heard m_a1_ending m_a1_meaning m_a1_cost m_a1_alikeTo m_a1_kind m_a1_want  adK adV  ho10) gX6_parseInto_X6_takesItem rfl (by decide +kernel) ⟨rfl, rfl, Nat.le_of_ble_eq_true rfl, Nat.le_of_ble_eq_true rfl⟩ (gm_XR_ok adK adV) (fun h => h) [0, 1, 2, 3, 4, 5, 6, 7, 8] rfl rfl rfl [0] rfl rfl rfl rfl hl.1 rfl (Nat.le_of_ble_eq_true rfl) dX6_parseInto_63 ⟨Nat.zero_le _, Nat.zero_le _⟩ (fun H locs hH => ?_)
        simp only [wX6_parseInto, wX6_takesItem, gm_sets, List.set_cons_succ, List.set_cons_zero] at hH
        have hH : gm_H (dC, dI) A s (wX6_parseInto cI q q_bytes q_a1 q_a1_ending q_a1_meaning q_a1_cost q_a1_alikeTo q_a1_kind q_a1_want q_a1_saidAhead q_a1_heardWord q_a1_heardAnswer m_length m_items o10.2.1 o10.2.2.1 o10.2.2.2.1 o10.2.2.2.2.1 m_bytes o10.2.2.2.2.2.1 o10.2.2.2.2.2.2.1 m_a1_said o10.2.2.2.2.2.2.2.1 m_a1_heard o10.2.2.2.2.2.2.2.2.1 o10.2.2.2.2.2.2.2.2.2.1 o10.2.2.2.2.2.2.2.2.2.2.1 o10.2.2.2.2.2.2.2.2.2.2.2.1 o10.2.2.2.2.2.2.2.2.2.2.2.2.1 o10.2.2.2.2.2.2.2.2.2.2.2.2.2) H locs := hH
        refine lv_if_ne (tgt := 74) hx hb dX6_parseInto_66 (by decide) (fun hc11 => ?_) (fun hc11 => ?_)
        · replace h := gm_neg hc11 h
          refine lv_aload_n hx hb dX6_parseInto_74 rfl (lv_at hl 0 rfl) ?_
          refine lv_dup hx hb dX6_parseInto_75 rfl ?_
          refine gm_get (ci := 6) C0 hH inX6_parseInto_X6 0 2 3 rfl rfl (by decide) rfl rfl dX6_parseInto_76 ?_
          refine lv_iconst (v := 1) hx hb dX6_parseInto_79 (by decide) ?_
          refine lv_iadd hx hb dX6_parseInto_80 ?_
          refine lv_topi (fun v12 ev12 => ?_)
          replace h := gm_let_e ev12 h
          refine gm_putf (ci := 6) C0 hH inX6_parseInto_X6 tyX6_ok nmX6 0 2 3 rfl rfl (by decide) rfl rfl rfl rfl rfl (Nat.le_of_ble_eq_true rfl) dX6_parseInto_81 (fun H locs hH => ?_)
          have hH : gm_H (dC, dI) A s (wX6_parseInto cI q q_bytes q_a1 q_a1_ending q_a1_meaning q_a1_cost q_a1_alikeTo q_a1_kind q_a1_want q_a1_saidAhead q_a1_heardWord q_a1_heardAnswer m_length v12 o10.2.1 o10.2.2.1 o10.2.2.2.1 o10.2.2.2.2.1 m_bytes o10.2.2.2.2.2.1 o10.2.2.2.2.2.2.1 m_a1_said o10.2.2.2.2.2.2.2.1 m_a1_heard o10.2.2.2.2.2.2.2.2.1 o10.2.2.2.2.2.2.2.2.2.1 o10.2.2.2.2.2.2.2.2.2.2.1 o10.2.2.2.2.2.2.2.2.2.2.2.1 o10.2.2.2.2.2.2.2.2.2.2.2.2.1 o10.2.2.2.2.2.2.2.2.2.2.2.2.2) H locs := hH
          refine lv_iinc (v := (x2 + 1)) (lv' := [(2, .int (x2 + 1)), (0, .ref q), (1, .ref q_a1)]) hx hb dX6_parseInto_84 hl (k := 2) rfl rfl (by decide) rfl (fun ls hl => ?_)
          refine lv_goto (tgt := 41) hx hb dX6_parseInto_87 (by decide) ?_
          exact hr41 _ _ _ _ _ _ _ _ _ _ _ _ _ _ _ _ _ _ h hH (lv_sub hl [1, 2, 0] rfl)
        · replace h := gm_pos hc11 h
          refine lv_aload_n hx hb dX6_parseInto_69 rfl (lv_at hl 0 rfl) ?_
          refine gm_get (ci := 6) C0 hH inX6_parseInto_X6 0 4 2 rfl rfl (by decide) rfl rfl dX6_parseInto_70 ?_
          obtain rfl := Option.some.inj h
          exact gm_iret C0 hH dX6_parseInto_73
      · replace h := gm_pos hc9 h
        refine lv_iconst (v := (-1)) hx hb dX6_parseInto_59 (by decide) ?_
        obtain rfl := Option.some.inj h
        exact gm_iret C0 hH dX6_parseInto_60
set_option maxRecDepth 100000 in
set_option maxHeartbeats 4000000 in
theorem mX6_parseInto (l : Launch) (dC : Nat → ClassId) (dI : Nat → Nat → Nat) (cI : ClassId) (q q_bytes q_a1 q_a1_ending q_a1_meaning q_a1_cost q_a1_alikeTo q_a1_kind q_a1_want q_a1_saidAhead q_a1_heardWord q_a1_heardAnswer : Nat) (m_length : Int32) (m_items : Int32) (m_place : Int32) (m_start : Int32) (m_token : Int32) (m_number : Int32) (m_bytes : Nat → Int32) (m_a1_words : Int32) (m_a1_people : Int32) (m_a1_said : Int32) (m_a1_undos : Int32) (m_a1_heard : Int32) (m_a1_ending : Nat → Int32) (m_a1_meaning : Nat → Int32) (m_a1_cost : Nat → Int32) (m_a1_alikeTo : Nat → Int32) (m_a1_kind : Nat → Int32) (m_a1_want : Nat → Int32)  (adK adV : Nat → Nat)  {N : Nat} {out : Int32 × Int32 × Int32 × Int32 × Int32 × Int32 × Int32 × Int32 × Int32 × Int32 × Int32 × (Nat → Int32) × (Nat → Int32) × (Nat → Int32) × (Nat → Int32) × (Nat → Int32) × (Nat → Int32)} (h : fX6_parseInto N m_length m_items m_place m_start m_token m_number m_bytes m_a1_words m_a1_people m_a1_said m_a1_undos m_a1_heard m_a1_ending m_a1_meaning m_a1_cost m_a1_alikeTo m_a1_kind m_a1_want = some out) : gm_Met l yX6_parseInto wsX6_parseInto rX6_parseInto (dC, dI) [(cI, .int)] (gm_XR adK adV) [.ref q, .ref q_a1] (wX6_parseInto cI q q_bytes q_a1 q_a1_ending q_a1_meaning q_a1_cost q_a1_alikeTo q_a1_kind q_a1_want q_a1_saidAhead q_a1_heardWord q_a1_heardAnswer m_length m_items m_place m_start m_token m_number m_bytes m_a1_words m_a1_people m_a1_said m_a1_undos m_a1_heard m_a1_ending m_a1_meaning m_a1_cost m_a1_alikeTo m_a1_kind m_a1_want) (some (.int out.1)) (wX6_parseInto cI q q_bytes q_a1 q_a1_ending q_a1_meaning q_a1_cost q_a1_alikeTo q_a1_kind q_a1_want q_a1_saidAhead q_a1_heardWord q_a1_heardAnswer m_length out.2.1 out.2.2.1 out.2.2.2.1 out.2.2.2.2.1 out.2.2.2.2.2.1 m_bytes out.2.2.2.2.2.2.1 out.2.2.2.2.2.2.2.1 out.2.2.2.2.2.2.2.2.1 out.2.2.2.2.2.2.2.2.2.1 out.2.2.2.2.2.2.2.2.2.2.1 out.2.2.2.2.2.2.2.2.2.2.2.1 out.2.2.2.2.2.2.2.2.2.2.2.2.1 out.2.2.2.2.2.2.2.2.2.2.2.2.2.1 out.2.2.2.2.2.2.2.2.2.2.2.2.2.2.1 out.2.2.2.2.2.2.2.2.2.2.2.2.2.2.2.1 out.2.2.2.2.2.2.2.2.2.2.2.2.2.2.2.2) := by
  refine gm_ofW (cc := cX6_parseInto) (maxL := 3) (ret := (some .int)) (by decide +kernel) rfl (Nat.le_of_ble_eq_true rfl) ?_
  intro p e s m below meth c A C0 hH ls hl
  generalize ([.ref q, .ref q_a1] : List Value).toArray = args at C0 ⊢
  have hl : lv_has ls 3 [(0, .ref q), (1, .ref q_a1)] := hl
  generalize s.heap = H at hH ⊢
  generalize ([] : List Loc) = locs at hH ⊢
  obtain ⟨hx, hb, hml, hr, hown, hts, hA, hK, hX, hlocks⟩ := id C0
  unfold fX6_parseInto at h
  refine lv_aload_n hx hb dX6_parseInto_0 rfl (lv_at hl 1 rfl) ?_
  obtain ⟨o1, ho1, h⟩ := gm_bind_e h
  refine gm_callV (As := []) (rest := []) (n := 0) (ci := 9) (q0 := 2) C0 hH (mX9_empty l dC dI cI q_a1 q_a1_alikeTo q_a1_ending q_a1_meaning q_a1_cost q_a1_kind q_a1_want q_a1_saidAhead q_a1_heardWord q_a1_heardAnswer m_a1_words m_a1_people m_a1_said m_a1_undos m_a1_heard m_a1_alikeTo    ho1) gX6_parseInto_X9_empty rfl (by decide +kernel) ⟨rfl, rfl, Nat.le_of_ble_eq_true rfl, Nat.le_of_ble_eq_true rfl⟩ gm_T_ok (fun _ => trivial) [2, 6] rfl rfl rfl [0] rfl rfl rfl rfl hl.1 rfl (Nat.le_of_ble_eq_true rfl) dX6_parseInto_1 ⟨Nat.zero_le _, Nat.zero_le _⟩ (fun H locs hH => ?_)
  have hH : gm_H (dC, dI) A s (wX6_parseInto cI q q_bytes q_a1 q_a1_ending q_a1_meaning q_a1_cost q_a1_alikeTo q_a1_kind q_a1_want q_a1_saidAhead q_a1_heardWord q_a1_heardAnswer m_length m_items m_place m_start m_token m_number m_bytes o1.1 o1.2.1 o1.2.2.1 o1.2.2.2.1 o1.2.2.2.2.1 m_a1_ending m_a1_meaning m_a1_cost o1.2.2.2.2.2 m_a1_kind m_a1_want) H locs := hH
  refine lv_aload_n hx hb dX6_parseInto_4 rfl (lv_at hl 0 rfl) ?_
  refine lv_iconst (v := 0) hx hb dX6_parseInto_5 (by decide) ?_
  refine gm_putf (ci := 6) C0 hH inX6_parseInto_X6 tyX6_ok nmX6 0 3 1 rfl rfl (by decide) rfl rfl rfl rfl rfl (Nat.le_of_ble_eq_true rfl) dX6_parseInto_6 (fun H locs hH => ?_)
  have hH : gm_H (dC, dI) A s (wX6_parseInto cI q q_bytes q_a1 q_a1_ending q_a1_meaning q_a1_cost q_a1_alikeTo q_a1_kind q_a1_want q_a1_saidAhead q_a1_heardWord q_a1_heardAnswer m_length m_items 0 m_start m_token m_number m_bytes o1.1 o1.2.1 o1.2.2.1 o1.2.2.2.1 o1.2.2.2.2.1 m_a1_ending m_a1_meaning m_a1_cost o1.2.2.2.2.2 m_a1_kind m_a1_want) H locs := hH
  refine lv_aload_n hx hb dX6_parseInto_9 rfl (lv_at hl 0 rfl) ?_
  obtain ⟨o2, ho2, h⟩ := gm_bind_e h
  refine gm_callV (As := []) (rest := []) (n := 0) (ci := 6) (q0 := 0) C0 hH (mX6_take l dC dI cI q q_bytes m_length m_items 0 m_start m_token m_number m_bytes    ho2) gX6_parseInto_X6_take rfl (by decide +kernel) ⟨rfl, rfl, Nat.le_of_ble_eq_true rfl, Nat.le_of_ble_eq_true rfl⟩ gm_T_ok (fun _ => trivial) [0, 1] rfl rfl rfl [0] rfl rfl rfl rfl hl.1 rfl (Nat.le_of_ble_eq_true rfl) dX6_parseInto_10 ⟨Nat.zero_le _, Nat.zero_le _⟩ (fun H locs hH => ?_)
  have hH : gm_H (dC, dI) A s (wX6_parseInto cI q q_bytes q_a1 q_a1_ending q_a1_meaning q_a1_cost q_a1_alikeTo q_a1_kind q_a1_want q_a1_saidAhead q_a1_heardWord q_a1_heardAnswer m_length m_items o2.1 o2.2.1 o2.2.2.1 o2.2.2.2 m_bytes o1.1 o1.2.1 o1.2.2.1 o1.2.2.2.1 o1.2.2.2.2.1 m_a1_ending m_a1_meaning m_a1_cost o1.2.2.2.2.2 m_a1_kind m_a1_want) H locs := hH
  refine lv_aload_n hx hb dX6_parseInto_13 rfl (lv_at hl 0 rfl) ?_
  refine va_ldcS hx hb hown hX.2.1.1 dX6_parseInto_14 ?_
  obtain ⟨o3, ho3, h⟩ := gm_bind_e h
  refine gm_callV (As := [.ref (adK 0)]) (rest := []) (n := 1) (ci := 6) (q0 := 0) C0 hH (mX6_isLetters l dC dI cI q q_bytes m_length m_items o2.1 o2.2.1 o2.2.2.1 o2.2.2.2 m_bytes 0 adK adV (by decide) ho3) gX6_parseInto_X6_isLetters rfl (by decide +kernel) ⟨rfl, rfl, Nat.le_of_ble_eq_true rfl, Nat.le_of_ble_eq_true rfl⟩ (gm_XR_ok adK adV) (fun h => h) [0, 1] rfl rfl rfl [0] rfl rfl rfl rfl hl.1 rfl (Nat.le_of_ble_eq_true rfl) dX6_parseInto_16 ⟨Nat.zero_le _, Nat.zero_le _⟩ (fun H locs hH => ?_)
  have hH : gm_H (dC, dI) A s (wX6_parseInto cI q q_bytes q_a1 q_a1_ending q_a1_meaning q_a1_cost q_a1_alikeTo q_a1_kind q_a1_want q_a1_saidAhead q_a1_heardWord q_a1_heardAnswer m_length m_items o2.1 o2.2.1 o2.2.2.1 o2.2.2.2 m_bytes o1.1 o1.2.1 o1.2.2.1 o1.2.2.2.1 o1.2.2.2.2.1 m_a1_ending m_a1_meaning m_a1_cost o1.2.2.2.2.2 m_a1_kind m_a1_want) H locs := hH
  refine lv_if_eq (tgt := 29) hx hb dX6_parseInto_19 (by decide) (fun hc4 => ?_) (fun hc4 => ?_)
  · replace h := gm_pos hc4 h
    refine lv_aload_n hx hb dX6_parseInto_29 rfl (lv_at hl 0 rfl) ?_
    refine gm_get (ci := 6) C0 hH inX6_parseInto_X6 0 4 2 rfl rfl (by decide) rfl rfl dX6_parseInto_30 ?_
    obtain rfl := Option.some.inj h
    exact gm_iret C0 hH dX6_parseInto_33
  · replace h := gm_neg hc4 h
    refine lv_aload_n hx hb dX6_parseInto_22 rfl (lv_at hl 0 rfl) ?_
    obtain ⟨o5, ho5, h⟩ := gm_bind_e h
    refine gm_callV (As := []) (rest := []) (n := 0) (ci := 6) (q0 := 0) C0 hH (mX6_takesStop l dC dI cI q q_bytes m_length m_items o2.1 o2.2.1 o2.2.2.1 o2.2.2.2 m_bytes    ho5) gX6_parseInto_X6_takesStop rfl (by decide +kernel) ⟨rfl, rfl, Nat.le_of_ble_eq_true rfl, Nat.le_of_ble_eq_true rfl⟩ gm_T_ok (fun _ => trivial) [0, 1] rfl rfl rfl [0] rfl rfl rfl rfl hl.1 rfl (Nat.le_of_ble_eq_true rfl) dX6_parseInto_23 ⟨Nat.zero_le _, Nat.zero_le _⟩ (fun H locs hH => ?_)
    have hH : gm_H (dC, dI) A s (wX6_parseInto cI q q_bytes q_a1 q_a1_ending q_a1_meaning q_a1_cost q_a1_alikeTo q_a1_kind q_a1_want q_a1_saidAhead q_a1_heardWord q_a1_heardAnswer m_length m_items o5.2.1 o5.2.2.1 o5.2.2.2.1 o5.2.2.2.2 m_bytes o1.1 o1.2.1 o1.2.2.1 o1.2.2.2.1 o1.2.2.2.2.1 m_a1_ending m_a1_meaning m_a1_cost o1.2.2.2.2.2 m_a1_kind m_a1_want) H locs := hH
    refine lv_if_ne (tgt := 34) hx hb dX6_parseInto_26 (by decide) (fun hc6 => ?_) (fun hc6 => ?_)
    · replace h := gm_neg hc6 h
      refine lv_aload_n hx hb dX6_parseInto_34 rfl (lv_at hl 0 rfl) ?_
      refine lv_iconst (v := 1) hx hb dX6_parseInto_35 (by decide) ?_
      refine gm_putf (ci := 6) C0 hH inX6_parseInto_X6 tyX6_ok nmX6 0 2 3 rfl rfl (by decide) rfl rfl rfl rfl rfl (Nat.le_of_ble_eq_true rfl) dX6_parseInto_36 (fun H locs hH => ?_)
      have hH : gm_H (dC, dI) A s (wX6_parseInto cI q q_bytes q_a1 q_a1_ending q_a1_meaning q_a1_cost q_a1_alikeTo q_a1_kind q_a1_want q_a1_saidAhead q_a1_heardWord q_a1_heardAnswer m_length 1 o5.2.1 o5.2.2.1 o5.2.2.2.1 o5.2.2.2.2 m_bytes o1.1 o1.2.1 o1.2.2.1 o1.2.2.2.1 o1.2.2.2.2.1 m_a1_ending m_a1_meaning m_a1_cost o1.2.2.2.2.2 m_a1_kind m_a1_want) H locs := hH
      refine lv_iconst (v := 0) hx hb dX6_parseInto_39 (by decide) ?_
      refine lv_istore_n (lv' := [(2, .int 0), (0, .ref q), (1, .ref q_a1)]) hx hb dX6_parseInto_40 rfl hl (by decide) rfl (fun ls hl => ?_)
      unfold fX6_parseInto_b41 at h
      exact tX6_parseInto_b41 C0  _ _ _ _ _ _ _ _ _ _ _ _ _ _ _ _ _ _ _ h hH (lv_sub hl [1, 2, 0] rfl)
    · replace h := gm_pos hc6 h
      refine lv_aload_n hx hb dX6_parseInto_29 rfl (lv_at hl 0 rfl) ?_
      refine gm_get (ci := 6) C0 hH inX6_parseInto_X6 0 4 2 rfl rfl (by decide) rfl rfl dX6_parseInto_30 ?_
      obtain rfl := Option.some.inj h
      exact gm_iret C0 hH dX6_parseInto_33
