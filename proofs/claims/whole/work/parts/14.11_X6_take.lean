/-! X6_take -/
abbrev wX6_take (cI : ClassId) (q q_bytes : Nat) (m_length : Int32) (m_items : Int32) (m_place : Int32) (m_start : Int32) (m_token : Int32) (m_number : Int32) (m_bytes : Nat → Int32) : va_W := [(q, .inr (6, [.ref q_bytes, .int m_length, .int m_items, .int m_place, .int m_start, .int m_token, .int m_number])), (q_bytes, .inl (cI, 150, .inl m_bytes))]
abbrev rX6_take : Room := { frames := 1, cells := 0, slots := 0, locals := 21 }
def fX6_take_b156 (N : Nat)  (m_place : Int32) (m_start : Int32) (m_token : Int32) (m_number : Int32) (m_bytes : Nat → Int32) : Option (Int32 × Int32 × Int32 × Int32) := (if m_token = 2 then gm_bind (fX6_settleNumber N m_place m_start m_token m_number m_bytes) (fun o6 => some (m_place, m_start, o6.1, o6.2)) else some (m_place, m_start, m_token, m_number))
def fX6_take_b93 (N : Nat)  (m_place : Int32) (m_start : Int32) (m_token : Int32) (m_number : Int32) (m_bytes : Nat → Int32) : Option (Int32 × Int32 × Int32 × Int32) := gm_let ((m_place + 1) : Int32) (fun (v4 : Int32) => (fX6_take_b156 N  v4 m_start m_token m_number m_bytes))
def fX6_take_b113_body (N : Nat)  (m_length : Int32) (m_start : Int32) (m_token : Int32) (m_number : Int32) (m_bytes : Nat → Int32) (r113 : Int32 → Option (Int32 × Int32 × Int32 × Int32)) (m_place : Int32) : Option (Int32 × Int32 × Int32 × Int32) := (if m_length ≤ m_place then (fX6_take_b156 N  m_place m_start m_token m_number m_bytes) else gm_chk m_place 150 (gm_bind (fX6_sortOf N ((m_bytes (Int32.toNatClampNeg m_place)))) (fun o11 => (if o11 = m_token then gm_let ((m_place + 1) : Int32) (fun (v13 : Int32) => (r113 v13)) else (fX6_take_b156 N  m_place m_start m_token m_number m_bytes)))))
def fX6_take_b113 (N : Nat)  (m_length : Int32) (m_start : Int32) (m_token : Int32) (m_number : Int32) (m_bytes : Nat → Int32) (m_place : Int32) : Option (Int32 × Int32 × Int32 × Int32) := gm_fix (fX6_take_b113_body N  m_length m_start m_token m_number m_bytes) (fun _ => none) N m_place
def fX6_take_b74 (N : Nat)  (m_length : Int32) (m_place : Int32) (m_start : Int32) (m_token : Int32) (m_number : Int32) (m_bytes : Nat → Int32) (k1 : Int32) : Option (Int32 × Int32 × Int32 × Int32) := (if k1 = 3 then (fX6_take_b93 N  m_place m_start k1 m_number m_bytes) else (if k1 = 4 then (fX6_take_b93 N  m_place m_start k1 m_number m_bytes) else (if k1 = 0 then (fX6_take_b156 N  m_place m_start k1 m_number m_bytes) else (fX6_take_b113 N  m_length m_start k1 m_number m_bytes m_place))))
def fX6_take_b38 (N : Nat)  (m_length : Int32) (m_place : Int32) (m_start : Int32) (m_token : Int32) (m_number : Int32) (m_bytes : Nat → Int32) : Option (Int32 × Int32 × Int32 × Int32) := (if m_length ≤ m_place then (fX6_take_b74 N  m_length m_place m_place m_token m_number m_bytes 0) else gm_chk m_place 150 (gm_bind (fX6_sortOf N ((m_bytes (Int32.toNatClampNeg m_place)))) (fun o15 => (fX6_take_b74 N  m_length m_place m_place m_token m_number m_bytes o15))))
def fX6_take_b0_body (N : Nat)  (m_length : Int32) (m_start : Int32) (m_token : Int32) (m_number : Int32) (m_bytes : Nat → Int32) (r0 : Int32 → Option (Int32 × Int32 × Int32 × Int32)) (m_place : Int32) : Option (Int32 × Int32 × Int32 × Int32) := (if m_length ≤ m_place then (fX6_take_b38 N  m_length m_place m_start m_token m_number m_bytes) else gm_chk m_place 150 ((if (m_bytes (Int32.toNatClampNeg m_place)) = 32 then gm_let ((m_place + 1) : Int32) (fun (v18 : Int32) => (r0 v18)) else (fX6_take_b38 N  m_length m_place m_start m_token m_number m_bytes))))
def fX6_take_b0 (N : Nat)  (m_length : Int32) (m_start : Int32) (m_token : Int32) (m_number : Int32) (m_bytes : Nat → Int32) (m_place : Int32) : Option (Int32 × Int32 × Int32 × Int32) := gm_fix (fX6_take_b0_body N  m_length m_start m_token m_number m_bytes) (fun _ => none) N m_place
def fX6_take (N : Nat) (m_length : Int32) (m_place : Int32) (m_start : Int32) (m_token : Int32) (m_number : Int32) (m_bytes : Nat → Int32)  : Option (Int32 × Int32 × Int32 × Int32) := (fX6_take_b0 N  m_length m_start m_token m_number m_bytes m_place)
set_option maxRecDepth 20000 in
theorem inX6_take_X6 : ∀ w ∈ u_ws RX6 TX6 7, w ∈ wsX6_take := fun w h => by
  obtain ⟨k, hk, rfl⟩ := List.mem_map.mp h
  have hk2 := List.mem_range.mp hk
  exact List.mem_of_getElem? (i := 15 + k) (by rcases (show k = 0 ∨ k = 1 ∨ k = 2 ∨ k = 3 ∨ k = 4 ∨ k = 5 ∨ k = 6 by omega) with rfl | rfl | rfl | rfl | rfl | rfl | rfl <;> rfl)
set_option maxRecDepth 100000 in
set_option maxHeartbeats 4000000 in
theorem tX6_take_b156 {p : Program} {l : Launch} {e : Env} {s : State} {m : MethodId} {args : Array Value} {below : List Frame} {meth : Method} {c : Code} {A : Nat → Prop} {dC : Nat → ClassId} {dI : Nat → Nat → Nat} {cI : ClassId} {q q_bytes : Nat} {m_length : Int32} {m_items : Int32} {m_place : Int32} {m_start : Int32} {m_token : Int32} {m_number : Int32} {m_bytes : Nat → Int32} (C0 : gm_C p s m args meth c (dC, dI) [(cI, .int)] A gm_T RX6 cX6_take 1 none wsX6_take) {N : Nat} {out : Int32 × Int32 × Int32 × Int32}    {H : Heap} {locs : List Loc} {ls : Array Slot} (h : fX6_take_b156 N  m_place m_start m_token m_number m_bytes = some out) (hH : gm_H (dC, dI) A s (wX6_take cI q q_bytes m_length m_items m_place m_start m_token m_number m_bytes) H locs) (hl : lv_has ls 1 [(0, .ref q)]) : W p l e rX6_take s m args below meth c H locs 0 0 (MQ below (gm_Q (dC, dI) [(cI, .int)] A none (wX6_take cI q q_bytes m_length m_items out.1 out.2.1 out.2.2.1 out.2.2.2 m_bytes)) args s 0 0 A) (F0 m 156 ls []) := by
  obtain ⟨hx, hb, hml, hr, hown, hts, hA, hK, hX, hlocks⟩ := id C0
  unfold fX6_take_b156 at h
  refine lv_aload_n hx hb dX6_take_156 rfl (lv_at hl 0 rfl) ?_
  refine gm_get (ci := 6) C0 hH inX6_take_X6 0 5 5 rfl rfl (by decide) rfl rfl dX6_take_157 ?_
  refine lv_iconst (v := 2) hx hb dX6_take_160 (by decide) ?_
  refine lv_icmp_ne (tgt := 168) hx hb dX6_take_161 (by decide) (fun hc5 => ?_) (fun hc5 => ?_)
  · replace h := gm_neg hc5 h
    obtain rfl := Option.some.inj h
    exact gm_vret C0 hH dX6_take_168
  · replace h := gm_pos hc5 h
    refine lv_aload_n hx hb dX6_take_164 rfl (lv_at hl 0 rfl) ?_
    obtain ⟨o6, ho6, h⟩ := gm_bind_e h
    refine gm_callV (As := []) (rest := []) (n := 0) (ci := 6) (q0 := 0) C0 hH (mX6_settleNumber l dC dI cI q q_bytes m_length m_items m_place m_start m_token m_number m_bytes    ho6) gX6_take_X6_settleNumber rfl (by decide +kernel) ⟨rfl, rfl, Nat.le_of_ble_eq_true rfl, Nat.le_of_ble_eq_true rfl⟩ gm_T_ok (fun _ => trivial) [0, 1] rfl rfl rfl [0] rfl rfl rfl rfl hl.1 rfl (Nat.le_of_ble_eq_true rfl) dX6_take_165 ⟨Nat.zero_le _, Nat.zero_le _⟩ (fun H locs hH => ?_)
    have hH : gm_H (dC, dI) A s (wX6_take cI q q_bytes m_length m_items m_place m_start o6.1 o6.2 m_bytes) H locs := hH
    obtain rfl := Option.some.inj h
    exact gm_vret C0 hH dX6_take_168
set_option maxRecDepth 100000 in
set_option maxHeartbeats 4000000 in
theorem tX6_take_b93 {p : Program} {l : Launch} {e : Env} {s : State} {m : MethodId} {args : Array Value} {below : List Frame} {meth : Method} {c : Code} {A : Nat → Prop} {dC : Nat → ClassId} {dI : Nat → Nat → Nat} {cI : ClassId} {q q_bytes : Nat} {m_length : Int32} {m_items : Int32} {m_place : Int32} {m_start : Int32} {m_token : Int32} {m_number : Int32} {m_bytes : Nat → Int32} (C0 : gm_C p s m args meth c (dC, dI) [(cI, .int)] A gm_T RX6 cX6_take 1 none wsX6_take) {N : Nat} {out : Int32 × Int32 × Int32 × Int32}    {H : Heap} {locs : List Loc} {ls : Array Slot} (h : fX6_take_b93 N  m_place m_start m_token m_number m_bytes = some out) (hH : gm_H (dC, dI) A s (wX6_take cI q q_bytes m_length m_items m_place m_start m_token m_number m_bytes) H locs) (hl : lv_has ls 1 [(0, .ref q)]) : W p l e rX6_take s m args below meth c H locs 0 0 (MQ below (gm_Q (dC, dI) [(cI, .int)] A none (wX6_take cI q q_bytes m_length m_items out.1 out.2.1 out.2.2.1 out.2.2.2 m_bytes)) args s 0 0 A) (F0 m 93 ls []) := by
  obtain ⟨hx, hb, hml, hr, hown, hts, hA, hK, hX, hlocks⟩ := id C0
  unfold fX6_take_b93 at h
  refine lv_aload_n hx hb dX6_take_93 rfl (lv_at hl 0 rfl) ?_
  refine lv_dup hx hb dX6_take_94 rfl ?_
  refine gm_get (ci := 6) C0 hH inX6_take_X6 0 3 1 rfl rfl (by decide) rfl rfl dX6_take_95 ?_
  refine lv_iconst (v := 1) hx hb dX6_take_98 (by decide) ?_
  refine lv_iadd hx hb dX6_take_99 ?_
  refine lv_topi (fun v4 ev4 => ?_)
  replace h := gm_let_e ev4 h
  refine gm_putf (ci := 6) C0 hH inX6_take_X6 tyX6_ok nmX6 0 3 1 rfl rfl (by decide) rfl rfl rfl rfl rfl (Nat.le_of_ble_eq_true rfl) dX6_take_100 (fun H locs hH => ?_)
  have hH : gm_H (dC, dI) A s (wX6_take cI q q_bytes m_length m_items v4 m_start m_token m_number m_bytes) H locs := hH
  refine lv_goto (tgt := 156) hx hb dX6_take_103 (by decide) ?_
  exact tX6_take_b156 C0  h hH (lv_sub hl [0] rfl)
set_option maxRecDepth 100000 in
set_option maxHeartbeats 4000000 in
theorem tX6_take_b113 {p : Program} {l : Launch} {e : Env} {s : State} {m : MethodId} {args : Array Value} {below : List Frame} {meth : Method} {c : Code} {A : Nat → Prop} {dC : Nat → ClassId} {dI : Nat → Nat → Nat} {cI : ClassId} {q q_bytes : Nat} {m_length : Int32} {m_items : Int32} {m_start : Int32} {m_token : Int32} {m_number : Int32} {m_bytes : Nat → Int32} (C0 : gm_C p s m args meth c (dC, dI) [(cI, .int)] A gm_T RX6 cX6_take 1 none wsX6_take) {N : Nat} {out : Int32 × Int32 × Int32 × Int32}   : ∀ (n : Nat), ∀ (m_place : Int32) (H : Heap) (locs : List Loc) (ls : Array Slot), (gm_fix (fX6_take_b113_body N  m_length m_start m_token m_number m_bytes) (fun _ => none) n) m_place = some out → gm_H (dC, dI) A s (wX6_take cI q q_bytes m_length m_items m_place m_start m_token m_number m_bytes) H locs → lv_has ls 1 [(0, .ref q)] → W p l e rX6_take s m args below meth c H locs 0 0 (MQ below (gm_Q (dC, dI) [(cI, .int)] A none (wX6_take cI q q_bytes m_length m_items out.1 out.2.1 out.2.2.1 out.2.2.2 m_bytes)) args s 0 0 A) (F0 m 113 ls []) := by
  obtain ⟨hx, hb, hml, hr, hown, hts, hA, hK, hX, hlocks⟩ := id C0
  intro n
  induction n with
  | zero =>
    intro m_place H locs ls h hH hl
    cases h
  | succ n hr113 =>
    intro m_place H locs ls h hH hl
    rw [gm_fix_s] at h
    unfold fX6_take_b113_body at h
    refine lv_aload_n hx hb dX6_take_113 rfl (lv_at hl 0 rfl) ?_
    refine gm_get (ci := 6) C0 hH inX6_take_X6 0 3 1 rfl rfl (by decide) rfl rfl dX6_take_114 ?_
    refine lv_aload_n hx hb dX6_take_117 rfl (lv_at hl 0 rfl) ?_
    refine gm_get (ci := 6) C0 hH inX6_take_X6 0 1 2 rfl rfl (by decide) rfl rfl dX6_take_118 ?_
    refine lv_icmp_ge (tgt := 156) hx hb dX6_take_121 (by decide) (fun hc9 => ?_) (fun hc9 => ?_)
    · replace h := gm_pos hc9 h
      exact tX6_take_b156 C0  h hH (lv_sub hl [0] rfl)
    · replace h := gm_neg hc9 h
      refine lv_aload_n hx hb dX6_take_124 rfl (lv_at hl 0 rfl) ?_
      refine gm_get (ci := 6) C0 hH inX6_take_X6 0 0 3 rfl rfl (by decide) rfl rfl dX6_take_125 ?_
      refine lv_aload_n hx hb dX6_take_128 rfl (lv_at hl 0 rfl) ?_
      refine gm_get (ci := 6) C0 hH inX6_take_X6 0 3 1 rfl rfl (by decide) rfl rfl dX6_take_129 ?_
      obtain ⟨hi10, h⟩ := gm_chk_e h
      refine gm_iald C0 hH hi10 1 0 rfl rfl dX6_take_132 ?_
      obtain ⟨o11, ho11, h⟩ := gm_bind_e h
      refine gm_callS (As := [.int (m_bytes (Int32.toNatClampNeg m_place))]) (rest := []) (n := 1) C0 hH (mX6_sortOf l dC dI    ((m_bytes (Int32.toNatClampNeg m_place)))   ho11) gX6_take_X6_sortOf rfl (by decide +kernel) ⟨rfl, rfl, Nat.le_of_ble_eq_true rfl, Nat.le_of_ble_eq_true rfl⟩ gm_T_ok (fun _ => trivial) [] rfl rfl rfl [] rfl rfl hl.1 rfl (Nat.le_of_ble_eq_true rfl) dX6_take_133 ⟨Nat.zero_le _, Nat.zero_le _⟩ (fun H locs hH => ?_)
      have hH : gm_H (dC, dI) A s (wX6_take cI q q_bytes m_length m_items m_place m_start m_token m_number m_bytes) H locs := hH
      refine lv_aload_n hx hb dX6_take_136 rfl (lv_at hl 0 rfl) ?_
      refine gm_get (ci := 6) C0 hH inX6_take_X6 0 5 5 rfl rfl (by decide) rfl rfl dX6_take_137 ?_
      refine lv_icmp_ne (tgt := 156) hx hb dX6_take_140 (by decide) (fun hc12 => ?_) (fun hc12 => ?_)
      · replace h := gm_neg hc12 h
        exact tX6_take_b156 C0  h hH (lv_sub hl [0] rfl)
      · replace h := gm_pos hc12 h
        refine lv_aload_n hx hb dX6_take_143 rfl (lv_at hl 0 rfl) ?_
        refine lv_dup hx hb dX6_take_144 rfl ?_
        refine gm_get (ci := 6) C0 hH inX6_take_X6 0 3 1 rfl rfl (by decide) rfl rfl dX6_take_145 ?_
        refine lv_iconst (v := 1) hx hb dX6_take_148 (by decide) ?_
        refine lv_iadd hx hb dX6_take_149 ?_
        refine lv_topi (fun v13 ev13 => ?_)
        replace h := gm_let_e ev13 h
        refine gm_putf (ci := 6) C0 hH inX6_take_X6 tyX6_ok nmX6 0 3 1 rfl rfl (by decide) rfl rfl rfl rfl rfl (Nat.le_of_ble_eq_true rfl) dX6_take_150 (fun H locs hH => ?_)
        have hH : gm_H (dC, dI) A s (wX6_take cI q q_bytes m_length m_items v13 m_start m_token m_number m_bytes) H locs := hH
        refine lv_goto (tgt := 113) hx hb dX6_take_153 (by decide) ?_
        exact hr113 _ _ _ _ h hH (lv_sub hl [0] rfl)
set_option maxRecDepth 100000 in
set_option maxHeartbeats 4000000 in
theorem tX6_take_b74 {p : Program} {l : Launch} {e : Env} {s : State} {m : MethodId} {args : Array Value} {below : List Frame} {meth : Method} {c : Code} {A : Nat → Prop} {dC : Nat → ClassId} {dI : Nat → Nat → Nat} {cI : ClassId} {q q_bytes : Nat} {m_length : Int32} {m_items : Int32} {m_place : Int32} {m_start : Int32} {m_token : Int32} {m_number : Int32} {m_bytes : Nat → Int32} {k1 : Int32} (C0 : gm_C p s m args meth c (dC, dI) [(cI, .int)] A gm_T RX6 cX6_take 1 none wsX6_take) {N : Nat} {out : Int32 × Int32 × Int32 × Int32}    {H : Heap} {locs : List Loc} {ls : Array Slot} (h : fX6_take_b74 N  m_length m_place m_start m_token m_number m_bytes k1 = some out) (hH : gm_H (dC, dI) A s (wX6_take cI q q_bytes m_length m_items m_place m_start m_token m_number m_bytes) H locs) (hl : lv_has ls 1 [(0, .ref q)]) : W p l e rX6_take s m args below meth c H locs 0 0 (MQ below (gm_Q (dC, dI) [(cI, .int)] A none (wX6_take cI q q_bytes m_length m_items out.1 out.2.1 out.2.2.1 out.2.2.2 m_bytes)) args s 0 0 A) (F0 m 74 ls [.int k1, .ref q]) := by
  obtain ⟨hx, hb, hml, hr, hown, hts, hA, hK, hX, hlocks⟩ := id C0
  unfold fX6_take_b74 at h
  refine gm_putf (ci := 6) C0 hH inX6_take_X6 tyX6_ok nmX6 0 5 5 rfl rfl (by decide) rfl rfl rfl rfl rfl (Nat.le_of_ble_eq_true rfl) dX6_take_74 (fun H locs hH => ?_)
  have hH : gm_H (dC, dI) A s (wX6_take cI q q_bytes m_length m_items m_place m_start k1 m_number m_bytes) H locs := hH
  refine lv_aload_n hx hb dX6_take_77 rfl (lv_at hl 0 rfl) ?_
  refine gm_get (ci := 6) C0 hH inX6_take_X6 0 5 5 rfl rfl (by decide) rfl rfl dX6_take_78 ?_
  refine lv_iconst (v := 3) hx hb dX6_take_81 (by decide) ?_
  refine lv_icmp_eq (tgt := 93) hx hb dX6_take_82 (by decide) (fun hc3 => ?_) (fun hc3 => ?_)
  · replace h := gm_pos hc3 h
    exact tX6_take_b93 C0  h hH (lv_sub hl [0] rfl)
  · replace h := gm_neg hc3 h
    refine lv_aload_n hx hb dX6_take_85 rfl (lv_at hl 0 rfl) ?_
    refine gm_get (ci := 6) C0 hH inX6_take_X6 0 5 5 rfl rfl (by decide) rfl rfl dX6_take_86 ?_
    refine lv_iconst (v := 4) hx hb dX6_take_89 (by decide) ?_
    refine lv_icmp_ne (tgt := 106) hx hb dX6_take_90 (by decide) (fun hc7 => ?_) (fun hc7 => ?_)
    · replace h := gm_neg hc7 h
      refine lv_aload_n hx hb dX6_take_106 rfl (lv_at hl 0 rfl) ?_
      refine gm_get (ci := 6) C0 hH inX6_take_X6 0 5 5 rfl rfl (by decide) rfl rfl dX6_take_107 ?_
      refine lv_if_eq (tgt := 156) hx hb dX6_take_110 (by decide) (fun hc8 => ?_) (fun hc8 => ?_)
      · replace h := gm_pos hc8 h
        exact tX6_take_b156 C0  h hH (lv_sub hl [0] rfl)
      · replace h := gm_neg hc8 h
        unfold fX6_take_b113 at h
        exact tX6_take_b113 C0  _ _ _ _ _ h hH (lv_sub hl [0] rfl)
    · replace h := gm_pos hc7 h
      exact tX6_take_b93 C0  h hH (lv_sub hl [0] rfl)
set_option maxRecDepth 100000 in
set_option maxHeartbeats 4000000 in
theorem tX6_take_b38 {p : Program} {l : Launch} {e : Env} {s : State} {m : MethodId} {args : Array Value} {below : List Frame} {meth : Method} {c : Code} {A : Nat → Prop} {dC : Nat → ClassId} {dI : Nat → Nat → Nat} {cI : ClassId} {q q_bytes : Nat} {m_length : Int32} {m_items : Int32} {m_place : Int32} {m_start : Int32} {m_token : Int32} {m_number : Int32} {m_bytes : Nat → Int32} (C0 : gm_C p s m args meth c (dC, dI) [(cI, .int)] A gm_T RX6 cX6_take 1 none wsX6_take) {N : Nat} {out : Int32 × Int32 × Int32 × Int32}    {H : Heap} {locs : List Loc} {ls : Array Slot} (h : fX6_take_b38 N  m_length m_place m_start m_token m_number m_bytes = some out) (hH : gm_H (dC, dI) A s (wX6_take cI q q_bytes m_length m_items m_place m_start m_token m_number m_bytes) H locs) (hl : lv_has ls 1 [(0, .ref q)]) : W p l e rX6_take s m args below meth c H locs 0 0 (MQ below (gm_Q (dC, dI) [(cI, .int)] A none (wX6_take cI q q_bytes m_length m_items out.1 out.2.1 out.2.2.1 out.2.2.2 m_bytes)) args s 0 0 A) (F0 m 38 ls []) := by
  obtain ⟨hx, hb, hml, hr, hown, hts, hA, hK, hX, hlocks⟩ := id C0
  unfold fX6_take_b38 at h
  refine lv_aload_n hx hb dX6_take_38 rfl (lv_at hl 0 rfl) ?_
  refine lv_aload_n hx hb dX6_take_39 rfl (lv_at hl 0 rfl) ?_
  refine gm_get (ci := 6) C0 hH inX6_take_X6 0 3 1 rfl rfl (by decide) rfl rfl dX6_take_40 ?_
  refine gm_putf (ci := 6) C0 hH inX6_take_X6 tyX6_ok nmX6 0 4 4 rfl rfl (by decide) rfl rfl rfl rfl rfl (Nat.le_of_ble_eq_true rfl) dX6_take_43 (fun H locs hH => ?_)
  have hH : gm_H (dC, dI) A s (wX6_take cI q q_bytes m_length m_items m_place m_place m_token m_number m_bytes) H locs := hH
  refine lv_aload_n hx hb dX6_take_46 rfl (lv_at hl 0 rfl) ?_
  refine lv_aload_n hx hb dX6_take_47 rfl (lv_at hl 0 rfl) ?_
  refine gm_get (ci := 6) C0 hH inX6_take_X6 0 3 1 rfl rfl (by decide) rfl rfl dX6_take_48 ?_
  refine lv_aload_n hx hb dX6_take_51 rfl (lv_at hl 0 rfl) ?_
  refine gm_get (ci := 6) C0 hH inX6_take_X6 0 1 2 rfl rfl (by decide) rfl rfl dX6_take_52 ?_
  refine lv_icmp_ge (tgt := 73) hx hb dX6_take_55 (by decide) (fun hc2 => ?_) (fun hc2 => ?_)
  · replace h := gm_pos hc2 h
    refine lv_iconst (v := 0) hx hb dX6_take_73 (by decide) ?_
    exact tX6_take_b74 C0  h hH (lv_sub hl [0] rfl)
  · replace h := gm_neg hc2 h
    refine lv_aload_n hx hb dX6_take_58 rfl (lv_at hl 0 rfl) ?_
    refine gm_get (ci := 6) C0 hH inX6_take_X6 0 0 3 rfl rfl (by decide) rfl rfl dX6_take_59 ?_
    refine lv_aload_n hx hb dX6_take_62 rfl (lv_at hl 0 rfl) ?_
    refine gm_get (ci := 6) C0 hH inX6_take_X6 0 3 1 rfl rfl (by decide) rfl rfl dX6_take_63 ?_
    obtain ⟨hi14, h⟩ := gm_chk_e h
    refine gm_iald C0 hH hi14 1 0 rfl rfl dX6_take_66 ?_
    obtain ⟨o15, ho15, h⟩ := gm_bind_e h
    refine gm_callS (As := [.int (m_bytes (Int32.toNatClampNeg m_place))]) (rest := [.ref q]) (n := 1) C0 hH (mX6_sortOf l dC dI    ((m_bytes (Int32.toNatClampNeg m_place)))   ho15) gX6_take_X6_sortOf rfl (by decide +kernel) ⟨rfl, rfl, Nat.le_of_ble_eq_true rfl, Nat.le_of_ble_eq_true rfl⟩ gm_T_ok (fun _ => trivial) [] rfl rfl rfl [] rfl rfl hl.1 rfl (Nat.le_of_ble_eq_true rfl) dX6_take_67 ⟨Nat.zero_le _, Nat.zero_le _⟩ (fun H locs hH => ?_)
    have hH : gm_H (dC, dI) A s (wX6_take cI q q_bytes m_length m_items m_place m_place m_token m_number m_bytes) H locs := hH
    refine lv_goto (tgt := 74) hx hb dX6_take_70 (by decide) ?_
    exact tX6_take_b74 C0  h hH (lv_sub hl [0] rfl)
set_option maxRecDepth 100000 in
set_option maxHeartbeats 4000000 in
theorem tX6_take_b0 {p : Program} {l : Launch} {e : Env} {s : State} {m : MethodId} {args : Array Value} {below : List Frame} {meth : Method} {c : Code} {A : Nat → Prop} {dC : Nat → ClassId} {dI : Nat → Nat → Nat} {cI : ClassId} {q q_bytes : Nat} {m_length : Int32} {m_items : Int32} {m_start : Int32} {m_token : Int32} {m_number : Int32} {m_bytes : Nat → Int32} (C0 : gm_C p s m args meth c (dC, dI) [(cI, .int)] A gm_T RX6 cX6_take 1 none wsX6_take) {N : Nat} {out : Int32 × Int32 × Int32 × Int32}   : ∀ (n : Nat), ∀ (m_place : Int32) (H : Heap) (locs : List Loc) (ls : Array Slot), (gm_fix (fX6_take_b0_body N  m_length m_start m_token m_number m_bytes) (fun _ => none) n) m_place = some out → gm_H (dC, dI) A s (wX6_take cI q q_bytes m_length m_items m_place m_start m_token m_number m_bytes) H locs → lv_has ls 1 [(0, .ref q)] → W p l e rX6_take s m args below meth c H locs 0 0 (MQ below (gm_Q (dC, dI) [(cI, .int)] A none (wX6_take cI q q_bytes m_length m_items out.1 out.2.1 out.2.2.1 out.2.2.2 m_bytes)) args s 0 0 A) (F0 m 0 ls []) := by
  obtain ⟨hx, hb, hml, hr, hown, hts, hA, hK, hX, hlocks⟩ := id C0
  intro n
  induction n with
  | zero =>
    intro m_place H locs ls h hH hl
    cases h
  | succ n hr0 =>
    intro m_place H locs ls h hH hl
    rw [gm_fix_s] at h
    unfold fX6_take_b0_body at h
    refine lv_aload_n hx hb dX6_take_0 rfl (lv_at hl 0 rfl) ?_
    refine gm_get (ci := 6) C0 hH inX6_take_X6 0 3 1 rfl rfl (by decide) rfl rfl dX6_take_1 ?_
    refine lv_aload_n hx hb dX6_take_4 rfl (lv_at hl 0 rfl) ?_
    refine gm_get (ci := 6) C0 hH inX6_take_X6 0 1 2 rfl rfl (by decide) rfl rfl dX6_take_5 ?_
    refine lv_icmp_ge (tgt := 38) hx hb dX6_take_8 (by decide) (fun hc1 => ?_) (fun hc1 => ?_)
    · replace h := gm_pos hc1 h
      exact tX6_take_b38 C0  h hH (lv_sub hl [0] rfl)
    · replace h := gm_neg hc1 h
      refine lv_aload_n hx hb dX6_take_11 rfl (lv_at hl 0 rfl) ?_
      refine gm_get (ci := 6) C0 hH inX6_take_X6 0 0 3 rfl rfl (by decide) rfl rfl dX6_take_12 ?_
      refine lv_aload_n hx hb dX6_take_15 rfl (lv_at hl 0 rfl) ?_
      refine gm_get (ci := 6) C0 hH inX6_take_X6 0 3 1 rfl rfl (by decide) rfl rfl dX6_take_16 ?_
      obtain ⟨hi16, h⟩ := gm_chk_e h
      refine gm_iald C0 hH hi16 1 0 rfl rfl dX6_take_19 ?_
      refine lv_bipush (v := 32) hx hb dX6_take_20 (by decide) ?_
      refine lv_icmp_ne (tgt := 38) hx hb dX6_take_22 (by decide) (fun hc17 => ?_) (fun hc17 => ?_)
      · replace h := gm_neg hc17 h
        exact tX6_take_b38 C0  h hH (lv_sub hl [0] rfl)
      · replace h := gm_pos hc17 h
        refine lv_aload_n hx hb dX6_take_25 rfl (lv_at hl 0 rfl) ?_
        refine lv_dup hx hb dX6_take_26 rfl ?_
        refine gm_get (ci := 6) C0 hH inX6_take_X6 0 3 1 rfl rfl (by decide) rfl rfl dX6_take_27 ?_
        refine lv_iconst (v := 1) hx hb dX6_take_30 (by decide) ?_
        refine lv_iadd hx hb dX6_take_31 ?_
        refine lv_topi (fun v18 ev18 => ?_)
        replace h := gm_let_e ev18 h
        refine gm_putf (ci := 6) C0 hH inX6_take_X6 tyX6_ok nmX6 0 3 1 rfl rfl (by decide) rfl rfl rfl rfl rfl (Nat.le_of_ble_eq_true rfl) dX6_take_32 (fun H locs hH => ?_)
        have hH : gm_H (dC, dI) A s (wX6_take cI q q_bytes m_length m_items v18 m_start m_token m_number m_bytes) H locs := hH
        refine lv_goto (tgt := 0) hx hb dX6_take_35 (by decide) ?_
        exact hr0 _ _ _ _ h hH (lv_sub hl [0] rfl)
set_option maxRecDepth 100000 in
set_option maxHeartbeats 4000000 in
theorem mX6_take (l : Launch) (dC : Nat → ClassId) (dI : Nat → Nat → Nat) (cI : ClassId) (q q_bytes : Nat) (m_length : Int32) (m_items : Int32) (m_place : Int32) (m_start : Int32) (m_token : Int32) (m_number : Int32) (m_bytes : Nat → Int32)   {N : Nat} {out : Int32 × Int32 × Int32 × Int32} (h : fX6_take N m_length m_place m_start m_token m_number m_bytes = some out) : gm_Met l yX6_take wsX6_take rX6_take (dC, dI) [(cI, .int)] gm_T [.ref q] (wX6_take cI q q_bytes m_length m_items m_place m_start m_token m_number m_bytes) none (wX6_take cI q q_bytes m_length m_items out.1 out.2.1 out.2.2.1 out.2.2.2 m_bytes) := by
  refine gm_ofW (cc := cX6_take) (maxL := 1) (ret := none) (by decide +kernel) rfl (Nat.le_of_ble_eq_true rfl) ?_
  intro p e s m below meth c A C0 hH ls hl
  generalize ([.ref q] : List Value).toArray = args at C0 ⊢
  have hl : lv_has ls 1 [(0, .ref q)] := hl
  generalize s.heap = H at hH ⊢
  generalize ([] : List Loc) = locs at hH ⊢
  obtain ⟨hx, hb, hml, hr, hown, hts, hA, hK, hX, hlocks⟩ := id C0
  unfold fX6_take at h
  unfold fX6_take_b0 at h
  exact tX6_take_b0 C0  _ _ _ _ _ h hH (lv_sub hl [0] rfl)
