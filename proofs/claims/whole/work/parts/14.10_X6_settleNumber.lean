/-! X6_settleNumber -/
abbrev wX6_settleNumber (cI : ClassId) (q q_bytes : Nat) (m_length : Int32) (m_items : Int32) (m_place : Int32) (m_start : Int32) (m_token : Int32) (m_number : Int32) (m_bytes : Nat → Int32) : va_W := [(q, .inr (6, [.ref q_bytes, .int m_length, .int m_items, .int m_place, .int m_start, .int m_token, .int m_number])), (q_bytes, .inl (cI, 150, .inl m_bytes))]
abbrev rX6_settleNumber : Room := { frames := 0, cells := 0, slots := 0, locals := 0 }
def fX6_settleNumber_b28_body (N : Nat)  (m_place : Int32) (m_start : Int32) (m_token : Int32) (m_bytes : Nat → Int32) (r28 : Int32 → Int32 → Option (Int32 × Int32)) (m_number : Int32) (x1 : Int32) : Option (Int32 × Int32) := (if m_place ≤ x1 then some (m_token, m_number) else (if (m_start + 2) ≤ x1 then some (m_token, m_number) else gm_chk x1 150 (gm_let ((((m_number * 10) + (m_bytes (Int32.toNatClampNeg x1))) - 48) : Int32) (fun (v5 : Int32) => (r28 v5 ((x1 + 1)))))))
def fX6_settleNumber_b28 (N : Nat)  (m_place : Int32) (m_start : Int32) (m_token : Int32) (m_bytes : Nat → Int32) (m_number : Int32) (x1 : Int32) : Option (Int32 × Int32) := gm_fix (fX6_settleNumber_b28_body N  m_place m_start m_token m_bytes) (fun _ _ => none) N m_number x1
def fX6_settleNumber_b18 (N : Nat)  (m_place : Int32) (m_start : Int32) (m_token : Int32) (m_number : Int32) (m_bytes : Nat → Int32) : Option (Int32 × Int32) := (fX6_settleNumber_b28 N  m_place m_start m_token m_bytes 0 m_start)
def fX6_settleNumber (N : Nat) (m_place : Int32) (m_start : Int32) (m_token : Int32) (m_number : Int32) (m_bytes : Nat → Int32)  : Option (Int32 × Int32) := (if (m_place - m_start) ≤ 2 then (fX6_settleNumber_b18 N  m_place m_start m_token m_number m_bytes) else (fX6_settleNumber_b18 N  m_place m_start 4 m_number m_bytes))
set_option maxRecDepth 20000 in
theorem inX6_settleNumber_X6 : ∀ w ∈ u_ws RX6 TX6 7, w ∈ wsX6_settleNumber := fun w h => by
  obtain ⟨k, hk, rfl⟩ := List.mem_map.mp h
  have hk2 := List.mem_range.mp hk
  exact List.mem_of_getElem? (i := 6 + k) (by rcases (show k = 0 ∨ k = 1 ∨ k = 2 ∨ k = 3 ∨ k = 4 ∨ k = 5 ∨ k = 6 by omega) with rfl | rfl | rfl | rfl | rfl | rfl | rfl <;> rfl)
set_option maxRecDepth 100000 in
set_option maxHeartbeats 4000000 in
theorem tX6_settleNumber_b28 {p : Program} {l : Launch} {e : Env} {s : State} {m : MethodId} {args : Array Value} {below : List Frame} {meth : Method} {c : Code} {A : Nat → Prop} {dC : Nat → ClassId} {dI : Nat → Nat → Nat} {cI : ClassId} {q q_bytes : Nat} {m_length : Int32} {m_items : Int32} {m_place : Int32} {m_start : Int32} {m_token : Int32} {m_bytes : Nat → Int32} (C0 : gm_C p s m args meth c (dC, dI) [(cI, .int)] A gm_T RX6 cX6_settleNumber 2 none wsX6_settleNumber) {N : Nat} {out : Int32 × Int32}   : ∀ (n : Nat), ∀ (m_number : Int32) (x1 : Int32) (H : Heap) (locs : List Loc) (ls : Array Slot), (gm_fix (fX6_settleNumber_b28_body N  m_place m_start m_token m_bytes) (fun _ _ => none) n) m_number x1 = some out → gm_H (dC, dI) A s (wX6_settleNumber cI q q_bytes m_length m_items m_place m_start m_token m_number m_bytes) H locs → lv_has ls 2 [(0, .ref q), (1, .int x1)] → W p l e rX6_settleNumber s m args below meth c H locs 0 0 (MQ below (gm_Q (dC, dI) [(cI, .int)] A none (wX6_settleNumber cI q q_bytes m_length m_items m_place m_start out.1 out.2 m_bytes)) args s 0 0 A) (F0 m 28 ls []) := by
  obtain ⟨hx, hb, hml, hr, hown, hts, hA, hK, hX, hlocks⟩ := id C0
  intro n
  induction n with
  | zero =>
    intro m_number x1 H locs ls h hH hl
    cases h
  | succ n hr28 =>
    intro m_number x1 H locs ls h hH hl
    rw [gm_fix_s] at h
    unfold fX6_settleNumber_b28_body at h
    refine lv_iload_n hx hb dX6_settleNumber_28 rfl (lv_at hl 1 rfl) ?_
    refine lv_aload_n hx hb dX6_settleNumber_29 rfl (lv_at hl 0 rfl) ?_
    refine gm_get (ci := 6) C0 hH inX6_settleNumber_X6 0 3 1 rfl rfl (by decide) rfl rfl dX6_settleNumber_30 ?_
    refine lv_icmp_ge (tgt := 73) hx hb dX6_settleNumber_33 (by decide) (fun hc2 => ?_) (fun hc2 => ?_)
    · replace h := gm_pos hc2 h
      obtain rfl := Option.some.inj h
      exact gm_vret C0 hH dX6_settleNumber_73
    · replace h := gm_neg hc2 h
      refine lv_iload_n hx hb dX6_settleNumber_36 rfl (lv_at hl 1 rfl) ?_
      refine lv_aload_n hx hb dX6_settleNumber_37 rfl (lv_at hl 0 rfl) ?_
      refine gm_get (ci := 6) C0 hH inX6_settleNumber_X6 0 4 2 rfl rfl (by decide) rfl rfl dX6_settleNumber_38 ?_
      refine lv_iconst (v := 2) hx hb dX6_settleNumber_41 (by decide) ?_
      refine lv_iadd hx hb dX6_settleNumber_42 ?_
      refine lv_icmp_ge (tgt := 73) hx hb dX6_settleNumber_43 (by decide) (fun hc3 => ?_) (fun hc3 => ?_)
      · replace h := gm_pos hc3 h
        obtain rfl := Option.some.inj h
        exact gm_vret C0 hH dX6_settleNumber_73
      · replace h := gm_neg hc3 h
        refine lv_aload_n hx hb dX6_settleNumber_46 rfl (lv_at hl 0 rfl) ?_
        refine lv_aload_n hx hb dX6_settleNumber_47 rfl (lv_at hl 0 rfl) ?_
        refine gm_get (ci := 6) C0 hH inX6_settleNumber_X6 0 6 4 rfl rfl (by decide) rfl rfl dX6_settleNumber_48 ?_
        refine lv_bipush (v := 10) hx hb dX6_settleNumber_51 (by decide) ?_
        refine lv_imul hx hb dX6_settleNumber_53 ?_
        refine lv_aload_n hx hb dX6_settleNumber_54 rfl (lv_at hl 0 rfl) ?_
        refine gm_get (ci := 6) C0 hH inX6_settleNumber_X6 0 0 5 rfl rfl (by decide) rfl rfl dX6_settleNumber_55 ?_
        refine lv_iload_n hx hb dX6_settleNumber_58 rfl (lv_at hl 1 rfl) ?_
        obtain ⟨hi4, h⟩ := gm_chk_e h
        refine gm_iald C0 hH hi4 1 0 rfl rfl dX6_settleNumber_59 ?_
        refine lv_iadd hx hb dX6_settleNumber_60 ?_
        refine lv_bipush (v := 48) hx hb dX6_settleNumber_61 (by decide) ?_
        refine lv_isub hx hb dX6_settleNumber_63 ?_
        refine lv_topi (fun v5 ev5 => ?_)
        replace h := gm_let_e ev5 h
        refine gm_putf (ci := 6) C0 hH inX6_settleNumber_X6 tyX6_ok nmX6 0 6 4 rfl rfl (by decide) rfl rfl rfl rfl rfl (Nat.le_of_ble_eq_true rfl) dX6_settleNumber_64 (fun H locs hH => ?_)
        have hH : gm_H (dC, dI) A s (wX6_settleNumber cI q q_bytes m_length m_items m_place m_start m_token v5 m_bytes) H locs := hH
        refine lv_iinc (v := (x1 + 1)) (lv' := [(1, .int (x1 + 1)), (0, .ref q)]) hx hb dX6_settleNumber_67 hl (k := 1) rfl rfl (by decide) rfl (fun ls hl => ?_)
        refine lv_goto (tgt := 28) hx hb dX6_settleNumber_70 (by decide) ?_
        exact hr28 _ _ _ _ _ h hH (lv_sub hl [1, 0] rfl)
set_option maxRecDepth 100000 in
set_option maxHeartbeats 4000000 in
theorem tX6_settleNumber_b18 {p : Program} {l : Launch} {e : Env} {s : State} {m : MethodId} {args : Array Value} {below : List Frame} {meth : Method} {c : Code} {A : Nat → Prop} {dC : Nat → ClassId} {dI : Nat → Nat → Nat} {cI : ClassId} {q q_bytes : Nat} {m_length : Int32} {m_items : Int32} {m_place : Int32} {m_start : Int32} {m_token : Int32} {m_number : Int32} {m_bytes : Nat → Int32} (C0 : gm_C p s m args meth c (dC, dI) [(cI, .int)] A gm_T RX6 cX6_settleNumber 2 none wsX6_settleNumber) {N : Nat} {out : Int32 × Int32}    {H : Heap} {locs : List Loc} {ls : Array Slot} (h : fX6_settleNumber_b18 N  m_place m_start m_token m_number m_bytes = some out) (hH : gm_H (dC, dI) A s (wX6_settleNumber cI q q_bytes m_length m_items m_place m_start m_token m_number m_bytes) H locs) (hl : lv_has ls 2 [(0, .ref q)]) : W p l e rX6_settleNumber s m args below meth c H locs 0 0 (MQ below (gm_Q (dC, dI) [(cI, .int)] A none (wX6_settleNumber cI q q_bytes m_length m_items m_place m_start out.1 out.2 m_bytes)) args s 0 0 A) (F0 m 18 ls []) := by
  obtain ⟨hx, hb, hml, hr, hown, hts, hA, hK, hX, hlocks⟩ := id C0
  unfold fX6_settleNumber_b18 at h
  refine lv_aload_n hx hb dX6_settleNumber_18 rfl (lv_at hl 0 rfl) ?_
  refine lv_iconst (v := 0) hx hb dX6_settleNumber_19 (by decide) ?_
  refine gm_putf (ci := 6) C0 hH inX6_settleNumber_X6 tyX6_ok nmX6 0 6 4 rfl rfl (by decide) rfl rfl rfl rfl rfl (Nat.le_of_ble_eq_true rfl) dX6_settleNumber_20 (fun H locs hH => ?_)
  have hH : gm_H (dC, dI) A s (wX6_settleNumber cI q q_bytes m_length m_items m_place m_start m_token 0 m_bytes) H locs := hH
  refine lv_aload_n hx hb dX6_settleNumber_23 rfl (lv_at hl 0 rfl) ?_
  refine gm_get (ci := 6) C0 hH inX6_settleNumber_X6 0 4 2 rfl rfl (by decide) rfl rfl dX6_settleNumber_24 ?_
  refine lv_istore_n (lv' := [(1, .int m_start), (0, .ref q)]) hx hb dX6_settleNumber_27 rfl hl (by decide) rfl (fun ls hl => ?_)
  unfold fX6_settleNumber_b28 at h
  exact tX6_settleNumber_b28 C0  _ _ _ _ _ _ h hH (lv_sub hl [1, 0] rfl)
set_option maxRecDepth 100000 in
set_option maxHeartbeats 4000000 in
theorem mX6_settleNumber (l : Launch) (dC : Nat → ClassId) (dI : Nat → Nat → Nat) (cI : ClassId) (q q_bytes : Nat) (m_length : Int32) (m_items : Int32) (m_place : Int32) (m_start : Int32) (m_token : Int32) (m_number : Int32) (m_bytes : Nat → Int32)   {N : Nat} {out : Int32 × Int32} (h : fX6_settleNumber N m_place m_start m_token m_number m_bytes = some out) : gm_Met l yX6_settleNumber wsX6_settleNumber rX6_settleNumber (dC, dI) [(cI, .int)] gm_T [.ref q] (wX6_settleNumber cI q q_bytes m_length m_items m_place m_start m_token m_number m_bytes) none (wX6_settleNumber cI q q_bytes m_length m_items m_place m_start out.1 out.2 m_bytes) := by
  refine gm_ofW (cc := cX6_settleNumber) (maxL := 2) (ret := none) (by decide +kernel) rfl (Nat.le_of_ble_eq_true rfl) ?_
  intro p e s m below meth c A C0 hH ls hl
  generalize ([.ref q] : List Value).toArray = args at C0 ⊢
  have hl : lv_has ls 2 [(0, .ref q)] := hl
  generalize s.heap = H at hH ⊢
  generalize ([] : List Loc) = locs at hH ⊢
  obtain ⟨hx, hb, hml, hr, hown, hts, hA, hK, hX, hlocks⟩ := id C0
  unfold fX6_settleNumber at h
  refine lv_aload_n hx hb dX6_settleNumber_0 rfl (lv_at hl 0 rfl) ?_
  refine gm_get (ci := 6) C0 hH inX6_settleNumber_X6 0 3 1 rfl rfl (by decide) rfl rfl dX6_settleNumber_1 ?_
  refine lv_aload_n hx hb dX6_settleNumber_4 rfl (lv_at hl 0 rfl) ?_
  refine gm_get (ci := 6) C0 hH inX6_settleNumber_X6 0 4 2 rfl rfl (by decide) rfl rfl dX6_settleNumber_5 ?_
  refine lv_isub hx hb dX6_settleNumber_8 ?_
  refine lv_iconst (v := 2) hx hb dX6_settleNumber_9 (by decide) ?_
  refine lv_icmp_le (tgt := 18) hx hb dX6_settleNumber_10 (by decide) (fun hc1 => ?_) (fun hc1 => ?_)
  · replace h := gm_pos hc1 h
    exact tX6_settleNumber_b18 C0  h hH (lv_sub hl [0] rfl)
  · replace h := gm_neg hc1 h
    refine lv_aload_n hx hb dX6_settleNumber_13 rfl (lv_at hl 0 rfl) ?_
    refine lv_iconst (v := 4) hx hb dX6_settleNumber_14 (by decide) ?_
    refine gm_putf (ci := 6) C0 hH inX6_settleNumber_X6 tyX6_ok nmX6 0 5 3 rfl rfl (by decide) rfl rfl rfl rfl rfl (Nat.le_of_ble_eq_true rfl) dX6_settleNumber_15 (fun H locs hH => ?_)
    have hH : gm_H (dC, dI) A s (wX6_settleNumber cI q q_bytes m_length m_items m_place m_start 4 m_number m_bytes) H locs := hH
    exact tX6_settleNumber_b18 C0  h hH (lv_sub hl [0] rfl)
