/-! X6_parseInto -/
abbrev wX6_parseInto (cI : ClassId) (q q_bytes q_a1 q_a1_ending q_a1_meaning q_a1_cost q_a1_alikeTo q_a1_kind q_a1_want q_a1_saidAhead q_a1_heardWord q_a1_heardAnswer : Nat) (m_length : Int32) (m_items : Int32) (m_place : Int32) (m_start : Int32) (m_token : Int32) (m_number : Int32) (m_bytes : Nat → Int32) (m_a1_words : Int32) (m_a1_people : Int32) (m_a1_said : Int32) (m_a1_undos : Int32) (m_a1_heard : Int32) (m_a1_ending : Nat → Int32) (m_a1_meaning : Nat → Int32) (m_a1_cost : Nat → Int32) (m_a1_alikeTo : Nat → Int32) (m_a1_kind : Nat → Int32) (m_a1_want : Nat → Int32) : va_W := [(q, .inr (6, [.ref q_bytes, .int m_length, .int m_items, .int m_place, .int m_start, .int m_token, .int m_number])), (q_bytes, .inl (cI, 150, .inl m_bytes)), (q_a1, .inr (9, [.ref q_a1_ending, .ref q_a1_meaning, .ref q_a1_cost, .int m_a1_words, .ref q_a1_alikeTo, .ref q_a1_kind, .ref q_a1_want, .int m_a1_people, .int m_a1_said, .ref q_a1_saidAhead, .int m_a1_undos, .ref q_a1_heardWord, .ref q_a1_heardAnswer, .int m_a1_heard])), (q_a1_ending, .inl (cI, 10, .inl m_a1_ending)), (q_a1_meaning, .inl (cI, 10, .inl m_a1_meaning)), (q_a1_cost, .inl (cI, 10, .inl m_a1_cost)), (q_a1_alikeTo, .inl (cI, 8, .inl m_a1_alikeTo)), (q_a1_kind, .inl (cI, 5, .inl m_a1_kind)), (q_a1_want, .inl (cI, 5, .inl m_a1_want))]
abbrev rX6_parseInto : Room := { frames := 6, cells := 0, slots := 0, locals := 128 }
def fX6_parseInto_b41_body (N : Nat)  (m_length : Int32) (m_bytes : Nat → Int32) (m_a1_said : Int32) (m_a1_heard : Int32) (r41 : Int32 → Int32 → Int32 → Int32 → Int32 → Int32 → Int32 → Int32 → (Nat → Int32) → (Nat → Int32) → (Nat → Int32) → (Nat → Int32) → (Nat → Int32) → (Nat → Int32) → Int32 → Option (Int32 × Int32 × Int32 × Int32 × Int32 × Int32 × Int32 × Int32 × Int32 × Int32 × Int32 × (Nat → Int32) × (Nat → Int32) × (Nat → Int32) × (Nat → Int32) × (Nat → Int32) × (Nat → Int32))) (m_items : Int32) (m_place : Int32) (m_start : Int32) (m_token : Int32) (m_number : Int32) (m_a1_words : Int32) (m_a1_people : Int32) (m_a1_undos : Int32) (m_a1_ending : Nat → Int32) (m_a1_meaning : Nat → Int32) (m_a1_cost : Nat → Int32) (m_a1_alikeTo : Nat → Int32) (m_a1_kind : Nat → Int32) (m_a1_want : Nat → Int32) (x2 : Int32) : Option (Int32 × Int32 × Int32 × Int32 × Int32 × Int32 × Int32 × Int32 × Int32 × Int32 × Int32 × (Nat → Int32) × (Nat → Int32) × (Nat → Int32) × (Nat → Int32) × (Nat → Int32) × (Nat → Int32)) := (if 150 ≤ x2 then some ((-1), m_items, m_place, m_start, m_token, m_number, m_a1_words, m_a1_people, m_a1_said, m_a1_undos, m_a1_heard, m_a1_ending, m_a1_meaning, m_a1_cost, m_a1_alikeTo, m_a1_kind, m_a1_want) else gm_bind (fX6_take N m_length m_place m_start m_token m_number m_bytes) (fun o8 => (if o8.2.2.1 = 0 then some ((-1), m_items, o8.1, o8.2.1, o8.2.2.1, o8.2.2.2, m_a1_words, m_a1_people, m_a1_said, m_a1_undos, m_a1_heard, m_a1_ending, m_a1_meaning, m_a1_cost, m_a1_alikeTo, m_a1_kind, m_a1_want) else gm_bind (fX6_takesItem N m_length o8.1 o8.2.1 o8.2.2.1 o8.2.2.2 m_bytes m_a1_words m_a1_people m_a1_undos m_a1_ending m_a1_meaning m_a1_cost m_a1_alikeTo m_a1_kind m_a1_want) (fun o10 => (if o10.1 = 0 then some (o10.2.2.1, m_items, o10.2.1, o10.2.2.1, o10.2.2.2.1, o10.2.2.2.2.1, o10.2.2.2.2.2.1, o10.2.2.2.2.2.2.1, m_a1_said, o10.2.2.2.2.2.2.2.1, m_a1_heard, o10.2.2.2.2.2.2.2.2.1, o10.2.2.2.2.2.2.2.2.2.1, o10.2.2.2.2.2.2.2.2.2.2.1, o10.2.2.2.2.2.2.2.2.2.2.2.1, o10.2.2.2.2.2.2.2.2.2.2.2.2.1, o10.2.2.2.2.2.2.2.2.2.2.2.2.2) else gm_let ((m_items + 1) : Int32) (fun (v12 : Int32) => (r41 v12 o10.2.1 o10.2.2.1 o10.2.2.2.1 o10.2.2.2.2.1 o10.2.2.2.2.2.1 o10.2.2.2.2.2.2.1 o10.2.2.2.2.2.2.2.1 o10.2.2.2.2.2.2.2.2.1 o10.2.2.2.2.2.2.2.2.2.1 o10.2.2.2.2.2.2.2.2.2.2.1 o10.2.2.2.2.2.2.2.2.2.2.2.1 o10.2.2.2.2.2.2.2.2.2.2.2.2.1 o10.2.2.2.2.2.2.2.2.2.2.2.2.2 ((x2 + 1)))))))))
def fX6_parseInto_b41 (N : Nat)  (m_length : Int32) (m_bytes : Nat → Int32) (m_a1_said : Int32) (m_a1_heard : Int32) (m_items : Int32) (m_place : Int32) (m_start : Int32) (m_token : Int32) (m_number : Int32) (m_a1_words : Int32) (m_a1_people : Int32) (m_a1_undos : Int32) (m_a1_ending : Nat → Int32) (m_a1_meaning : Nat → Int32) (m_a1_cost : Nat → Int32) (m_a1_alikeTo : Nat → Int32) (m_a1_kind : Nat → Int32) (m_a1_want : Nat → Int32) (x2 : Int32) : Option (Int32 × Int32 × Int32 × Int32 × Int32 × Int32 × Int32 × Int32 × Int32 × Int32 × Int32 × (Nat → Int32) × (Nat → Int32) × (Nat → Int32) × (Nat → Int32) × (Nat → Int32) × (Nat → Int32)) := gm_fix (fX6_parseInto_b41_body N  m_length m_bytes m_a1_said m_a1_heard) (fun _ _ _ _ _ _ _ _ _ _ _ _ _ _ _ => none) N m_items m_place m_start m_token m_number m_a1_words m_a1_people m_a1_undos m_a1_ending m_a1_meaning m_a1_cost m_a1_alikeTo m_a1_kind m_a1_want x2
def fX6_parseInto (N : Nat) (m_length : Int32) (m_items : Int32) (m_place : Int32) (m_start : Int32) (m_token : Int32) (m_number : Int32) (m_bytes : Nat → Int32) (m_a1_words : Int32) (m_a1_people : Int32) (m_a1_said : Int32) (m_a1_undos : Int32) (m_a1_heard : Int32) (m_a1_ending : Nat → Int32) (m_a1_meaning : Nat → Int32) (m_a1_cost : Nat → Int32) (m_a1_alikeTo : Nat → Int32) (m_a1_kind : Nat → Int32) (m_a1_want : Nat → Int32)  : Option (Int32 × Int32 × Int32 × Int32 × Int32 × Int32 × Int32 × Int32 × Int32 × Int32 × Int32 × (Nat → Int32) × (Nat → Int32) × (Nat → Int32) × (Nat → Int32) × (Nat → Int32) × (Nat → Int32)) := gm_bind (fX9_empty N m_a1_words m_a1_people m_a1_said m_a1_undos m_a1_heard m_a1_alikeTo) (fun o1 => gm_bind (fX6_take N m_length 0 m_start m_token m_number m_bytes) (fun o2 => gm_bind (fX6_isLetters N o2.1 o2.2.1 o2.2.2.1 m_bytes 0) (fun o3 => (if o3 = 0 then some (o2.2.1, m_items, o2.1, o2.2.1, o2.2.2.1, o2.2.2.2, o1.1, o1.2.1, o1.2.2.1, o1.2.2.2.1, o1.2.2.2.2.1, m_a1_ending, m_a1_meaning, m_a1_cost, o1.2.2.2.2.2, m_a1_kind, m_a1_want) else gm_bind (fX6_takesStop N m_length o2.1 o2.2.1 o2.2.2.1 o2.2.2.2 m_bytes) (fun o5 => (if o5.1 = 0 then some (o5.2.2.1, m_items, o5.2.1, o5.2.2.1, o5.2.2.2.1, o5.2.2.2.2, o1.1, o1.2.1, o1.2.2.1, o1.2.2.2.1, o1.2.2.2.2.1, m_a1_ending, m_a1_meaning, m_a1_cost, o1.2.2.2.2.2, m_a1_kind, m_a1_want) else (fX6_parseInto_b41 N  m_length m_bytes o1.2.2.1 o1.2.2.2.2.1 1 o5.2.1 o5.2.2.1 o5.2.2.2.1 o5.2.2.2.2 o1.1 o1.2.1 o1.2.2.2.1 m_a1_ending m_a1_meaning m_a1_cost o1.2.2.2.2.2 m_a1_kind m_a1_want 0)))))))
set_option maxRecDepth 20000 in
theorem inX6_parseInto_X6 : ∀ w ∈ u_ws RX6 TX6 7, w ∈ wsX6_parseInto := fun w h => by
  obtain ⟨k, hk, rfl⟩ := List.mem_map.mp h
  have hk2 := List.mem_range.mp hk
  exact List.mem_of_getElem? (i := 127 + k) (by rcases (show k = 0 ∨ k = 1 ∨ k = 2 ∨ k = 3 ∨ k = 4 ∨ k = 5 ∨ k = 6 by omega) with rfl | rfl | rfl | rfl | rfl | rfl | rfl <;> rfl)
set_option maxRecDepth 20000 in
theorem inX6_parseInto_X9 : ∀ w ∈ u_ws RX9 TX9 14, w ∈ wsX6_parseInto := fun w h => by
  obtain ⟨k, hk, rfl⟩ := List.mem_map.mp h
  have hk2 := List.mem_range.mp hk
  exact List.mem_of_getElem? (i := 134 + k) (by rcases (show k = 0 ∨ k = 1 ∨ k = 2 ∨ k = 3 ∨ k = 4 ∨ k = 5 ∨ k = 6 ∨ k = 7 ∨ k = 8 ∨ k = 9 ∨ k = 10 ∨ k = 11 ∨ k = 12 ∨ k = 13 by omega) with rfl | rfl | rfl | rfl | rfl | rfl | rfl | rfl | rfl | rfl | rfl | rfl | rfl | rfl <;> rfl)
set_option maxRecDepth 100000 in
set_option maxHeartbeats 4000000 in
theorem tX6_parseInto_b41 {p : Program} {l : Launch} {e : Env} {s : State} {m : MethodId} {args : Array Value} {below : List Frame} {meth : Method} {c : Code} {A : Nat → Prop} {dC : Nat → ClassId} {dI : Nat → Nat → Nat} {cI : ClassId} {q q_bytes q_a1 q_a1_ending q_a1_meaning q_a1_cost q_a1_alikeTo q_a1_kind q_a1_want q_a1_saidAhead q_a1_heardWord q_a1_heardAnswer : Nat} {adK adV : Nat → Nat} {m_length : Int32} {m_bytes : Nat → Int32} {m_a1_said : Int32} {m_a1_heard : Int32} (C0 : gm_C p s m args meth c (dC, dI) [(cI, .int)] A (gm_XR adK adV) RX6 cX6_parseInto 3 (some .int) wsX6_parseInto) {N : Nat} {out : Int32 × Int32 × Int32 × Int32 × Int32 × Int32 × Int32 × Int32 × Int32 × Int32 × Int32 × (Nat → Int32) × (Nat → Int32) × (Nat → Int32) × (Nat → Int32) × (Nat → Int32) × (Nat → Int32)}   : ∀ (n : Nat), ∀ (m_items : Int32) (m_place : Int32) (m_start : Int32) (m_token : Int32) (m_number : Int32) (m_a1_words : Int32) (m_a1_people : Int32) (m_a1_undos : Int32) (m_a1_ending : Nat → Int32) (m_a1_meaning : Nat → Int32) (m_a1_cost : Nat → Int32) (m_a1_alikeTo : Nat → Int32) (m_a1_kind : Nat → Int32) (m_a1_want : Nat → Int32) (x2 : Int32) (H : Heap) (locs : List Loc) (ls : Array Slot), (gm_fix (fX6_parseInto_b41_body N  m_length m_bytes m_a1_said m_a1_heard) (fun _ _ _ _ _ _ _ _ _ _ _ _ _ _ _ => none) n) m_items m_place m_start m_token m_number m_a1_words m_a1_people m_a1_undos m_a1_ending m_a1_meaning m_a1_cost m_a1_alikeTo m_a1_kind m_a1_want x2 = some out → gm_H (dC, dI) A s (wX6_parseInto cI q q_bytes q_a1 q_a1_ending q_a1_meaning q_a1_cost q_a1_alikeTo q_a1_kind q_a1_want q_a1_saidAhead q_a1_heardWord q_a1_heardAnswer m_length m_items m_place m_start m_token m_number m_bytes m_a1_words m_a1_people m_a1_said m_a1_undos m_a1_heard m_a1_ending m_a1_meaning m_a1_cost m_a1_alikeTo m_a1_kind m_a1_want) H locs → lv_has ls 3 [(0, .ref q), (1, .ref q_a1), (2, .int x2)] → W p l e rX6_parseInto s m args below meth c H locs 0 0 (MQ below (gm_Q (dC, dI) [(cI, .int)] A (some (.int out.1)) (wX6_parseInto cI q q_bytes q_a1 q_a1_ending q_a1_meaning q_a1_cost q_a1_alikeTo q_a1_kind q_a1_want q_a1_saidAhead q_a1_heardWord q_a1_heardAnswer m_length out.2.1 out.2.2.1 out.2.2.2.1 out.2.2.2.2.1 out.2.2.2.2.2.1 m_bytes out.2.2.2.2.2.2.1 out.2.2.2.2.2.2.2.1 out.2.2.2.2.2.2.2.2.1 out.2.2.2.2.2.2.2.2.2.1 out.2.2.2.2.2.2.2.2.2.2.1 out.2.2.2.2.2.2.2.2.2.2.2.1 out.2.2.2.2.2.2.2.2.2.2.2.2.1 out.2.2.2.2.2.2.2.2.2.2.2.2.2.1 out.2.2.2.2.2.2.2.2.2.2.2.2.2.2.1 out.2.2.2.2.2.2.2.2.2.2.2.2.2.2.2.1 out.2.2.2.2.2.2.2.2.2.2.2.2.2.2.2.2)) args s 0 0 A) (F0 m 41 ls []) := by
  obtain ⟨hx, hb, hml, hr, hown, hts, hA, hK, hX, hlocks⟩ := id C0
  intro n
  induction n with
  | zero =>
    intro m_items m_place m_start m_token m_number m_a1_words m_a1_people m_a1_undos m_a1_ending m_a1_meaning m_a1_cost m_a1_alikeTo m_a1_kind m_a1_want x2 H locs ls h hH hl
    cases h
  | succ n hr41 =>
    intro m_items m_place m_start m_token m_number m_a1_words m_a1_people m_a1_undos m_a1_ending m_a1_meaning m_a1_cost m_a1_alikeTo m_a1_kind m_a1_want x2 H locs ls h hH hl
    rw [gm_fix_s] at h
    unfold fX6_parseInto_b41_body at h
    refine lv_iload_n hx hb dX6_parseInto_41 rfl (lv_at hl 2 rfl) ?_
    refine lv_sipush (v := 150) hx hb dX6_parseInto_42 (by decide) ?_
    refine lv_icmp_ge (tgt := 90) hx hb dX6_parseInto_45 (by decide) (fun hc7 => ?_) (fun hc7 => ?_)
    · replace h := gm_pos hc7 h
      refine lv_iconst (v := (-1)) hx hb dX6_parseInto_90 (by decide) ?_
      obtain rfl := Option.some.inj h
      exact gm_iret C0 hH dX6_parseInto_91
    · replace h := gm_neg hc7 h
      refine lv_aload_n hx hb dX6_parseInto_48 rfl (lv_at hl 0 rfl) ?_
      obtain ⟨o8, ho8, h⟩ := gm_bind_e h
      refine gm_callV (As := []) (rest := []) (n := 0) (ci := 6) (q0 := 0) C0 hH (mX6_take l dC dI cI q q_bytes m_length m_items m_place m_start m_token m_number m_bytes    ho8) gX6_parseInto_X6_take rfl (by decide +kernel) ⟨rfl, rfl, Nat.le_of_ble_eq_true rfl, Nat.le_of_ble_eq_true rfl⟩ gm_T_ok (fun _ => trivial) [0, 1] rfl rfl rfl [0] rfl rfl rfl rfl hl.1 rfl (Nat.le_of_ble_eq_true rfl) dX6_parseInto_49 ⟨Nat.zero_le _, Nat.zero_le _⟩ (fun H locs hH => ?_)
      have hH : gm_H (dC, dI) A s (wX6_parseInto cI q q_bytes q_a1 q_a1_ending q_a1_meaning q_a1_cost q_a1_alikeTo q_a1_kind q_a1_want q_a1_saidAhead q_a1_heardWord q_a1_heardAnswer m_length m_items o8.1 o8.2.1 o8.2.2.1 o8.2.2.2 m_bytes m_a1_words m_a1_people m_a1_said m_a1_undos m_a1_heard m_a1_ending m_a1_meaning m_a1_cost m_a1_alikeTo m_a1_kind m_a1_want) H locs := hH
      refine lv_aload_n hx hb dX6_parseInto_52 rfl (lv_at hl 0 rfl) ?_
      refine gm_get (ci := 6) C0 hH inX6_parseInto_X6 0 5 4 rfl rfl (by decide) rfl rfl dX6_parseInto_53 ?_
      refine lv_if_ne (tgt := 61) hx hb dX6_parseInto_56 (by decide) (fun hc9 => ?_) (fun hc9 => ?_)
      · replace h := gm_neg hc9 h
        refine lv_aload_n hx hb dX6_parseInto_61 rfl (lv_at hl 0 rfl) ?_
        refine lv_aload_n hx hb dX6_parseInto_62 rfl (lv_at hl 1 rfl) ?_
        obtain ⟨o10, ho10, h⟩ := gm_bind_e h
        refine gm_callV (As := [.ref q_a1]) (rest := []) (n := 1) (ci := 6) (q0 := 0) C0 hH (mX6_takesItem l dC dI cI q q_bytes q_a1 q_a1_ending q_a1_meaning q_a1_cost q_a1_alikeTo q_a1_kind q_a1_want q_a1_saidAhead q_a1_heardWord q_a1_heardAnswer m_length m_items o8.1 o8.2.1 o8.2.2.1 o8.2.2.2 m_bytes m_a1_words m_a1_people m_a1_said m_a1_undos m_a1_heard m_a1_ending m_a1_meaning m_a1_cost m_a1_alikeTo m_a1_kind m_a1_want  adK adV  ho10) gX6_parseInto_X6_takesItem rfl (by decide +kernel) ⟨rfl, rfl, Nat.le_of_ble_eq_true rfl, Nat.le_of_ble_eq_true rfl⟩ (gm_XR_ok adK adV) (fun h => h) [0, 1, 2, 3, 4, 5, 6, 7, 8] rfl rfl rfl [0] rfl rfl rfl rfl hl.1 rfl (Nat.le_of_ble_eq_true rfl) dX6_parseInto_63 ⟨Nat.zero_le _, Nat.zero_le _⟩ (fun H locs hH => ?_)
        simp only [wX6_parseInto, wX6_takesItem, gm_sets, List.set_cons_succ, List.set_cons_zero] at hH
        have hH : gm_H (dC, dI) A s (wX6_parseInto cI q q_bytes q_a1 q_a1_ending q_a1_meaning q_a1_cost q_a1_alikeTo q_a1_kind q_a1_want q_a1_saidAhead q_a1_heardWord q_a1_heardAnswer m_length m_items o10.2.1 o10.2.2.1 o10.2.2.2.1 o10.2.2.2.2.1 m_bytes o10.2.2.2.2.2.1 o10.2.2.2.2.2.2.1 m_a1_said o10.2.2.2.2.2.2.2.1 m_a1_heard o10.2.2.2.2.2.2.2.2.1 o10.2.2.2.2.2.2.2.2.2.1 o10.2.2.2.2.2.2.2.2.2.2.1 o10.2.2.2.2.2.2.2.2.2.2.2.1 o10.2.2.2.2.2.2.2.2.2.2.2.2.1 o10.2.2.2.2.2.2.2.2.2.2.2.2.2) H locs := hH
        refine lv_if_ne (tgt := 74) hx hb dX6_parseInto_66 (by decide) (fun hc11 => ?_) (fun hc11 => ?_)
        · replace h := gm_neg hc11 h
          refine lv_aload_n hx hb dX6_parseInto_74 rfl (lv_at hl 0 rfl) ?_
          refine lv_dup hx hb dX6_parseInto_75 rfl ?_
          refine gm_get (ci := 6) C0 hH inX6_parseInto_X6 0 2 3 rfl rfl (by decide) rfl rfl dX6_parseInto_76 ?_
          refine lv_iconst (v := 1) hx hb dX6_parseInto_79 (by decide) ?_
          refine lv_iadd hx hb dX6_parseInto_80 ?_
          refine lv_topi (fun v12 ev12 => ?_)
          replace h := gm_let_e ev12 h
          refine gm_putf (ci := 6) C0 hH inX6_parseInto_X6 tyX6_ok nmX6 0 2 3 rfl rfl (by decide) rfl rfl rfl rfl rfl (Nat.le_of_ble_eq_true rfl) dX6_parseInto_81 (fun H locs hH => ?_)
          have hH : gm_H (dC, dI) A s (wX6_parseInto cI q q_bytes q_a1 q_a1_ending q_a1_meaning q_a1_cost q_a1_alikeTo q_a1_kind q_a1_want q_a1_saidAhead q_a1_heardWord q_a1_heardAnswer m_length v12 o10.2.1 o10.2.2.1 o10.2.2.2.1 o10.2.2.2.2.1 m_bytes o10.2.2.2.2.2.1 o10.2.2.2.2.2.2.1 m_a1_said o10.2.2.2.2.2.2.2.1 m_a1_heard o10.2.2.2.2.2.2.2.2.1 o10.2.2.2.2.2.2.2.2.2.1 o10.2.2.2.2.2.2.2.2.2.2.1 o10.2.2.2.2.2.2.2.2.2.2.2.1 o10.2.2.2.2.2.2.2.2.2.2.2.2.1 o10.2.2.2.2.2.2.2.2.2.2.2.2.2) H locs := hH
          refine lv_iinc (v := (x2 + 1)) (lv' := [(2, .int (x2 + 1)), (0, .ref q), (1, .ref q_a1)]) hx hb dX6_parseInto_84 hl (k := 2) rfl rfl (by decide) rfl (fun ls hl => ?_)
          refine lv_goto (tgt := 41) hx hb dX6_parseInto_87 (by decide) ?_
          exact hr41 _ _ _ _ _ _ _ _ _ _ _ _ _ _ _ _ _ _ h hH (lv_sub hl [1, 2, 0] rfl)
        · replace h := gm_pos hc11 h
          refine lv_aload_n hx hb dX6_parseInto_69 rfl (lv_at hl 0 rfl) ?_
          refine gm_get (ci := 6) C0 hH inX6_parseInto_X6 0 4 2 rfl rfl (by decide) rfl rfl dX6_parseInto_70 ?_
          obtain rfl := Option.some.inj h
          exact gm_iret C0 hH dX6_parseInto_73
      · replace h := gm_pos hc9 h
        refine lv_iconst (v := (-1)) hx hb dX6_parseInto_59 (by decide) ?_
        obtain rfl := Option.some.inj h
        exact gm_iret C0 hH dX6_parseInto_60
set_option maxRecDepth 100000 in
set_option maxHeartbeats 4000000 in
theorem mX6_parseInto (l : Launch) (dC : Nat → ClassId) (dI : Nat → Nat → Nat) (cI : ClassId) (q q_bytes q_a1 q_a1_ending q_a1_meaning q_a1_cost q_a1_alikeTo q_a1_kind q_a1_want q_a1_saidAhead q_a1_heardWord q_a1_heardAnswer : Nat) (m_length : Int32) (m_items : Int32) (m_place : Int32) (m_start : Int32) (m_token : Int32) (m_number : Int32) (m_bytes : Nat → Int32) (m_a1_words : Int32) (m_a1_people : Int32) (m_a1_said : Int32) (m_a1_undos : Int32) (m_a1_heard : Int32) (m_a1_ending : Nat → Int32) (m_a1_meaning : Nat → Int32) (m_a1_cost : Nat → Int32) (m_a1_alikeTo : Nat → Int32) (m_a1_kind : Nat → Int32) (m_a1_want : Nat → Int32)  (adK adV : Nat → Nat)  {N : Nat} {out : Int32 × Int32 × Int32 × Int32 × Int32 × Int32 × Int32 × Int32 × Int32 × Int32 × Int32 × (Nat → Int32) × (Nat → Int32) × (Nat → Int32) × (Nat → Int32) × (Nat → Int32) × (Nat → Int32)} (h : fX6_parseInto N m_length m_items m_place m_start m_token m_number m_bytes m_a1_words m_a1_people m_a1_said m_a1_undos m_a1_heard m_a1_ending m_a1_meaning m_a1_cost m_a1_alikeTo m_a1_kind m_a1_want = some out) : gm_Met l yX6_parseInto wsX6_parseInto rX6_parseInto (dC, dI) [(cI, .int)] (gm_XR adK adV) [.ref q, .ref q_a1] (wX6_parseInto cI q q_bytes q_a1 q_a1_ending q_a1_meaning q_a1_cost q_a1_alikeTo q_a1_kind q_a1_want q_a1_saidAhead q_a1_heardWord q_a1_heardAnswer m_length m_items m_place m_start m_token m_number m_bytes m_a1_words m_a1_people m_a1_said m_a1_undos m_a1_heard m_a1_ending m_a1_meaning m_a1_cost m_a1_alikeTo m_a1_kind m_a1_want) (some (.int out.1)) (wX6_parseInto cI q q_bytes q_a1 q_a1_ending q_a1_meaning q_a1_cost q_a1_alikeTo q_a1_kind q_a1_want q_a1_saidAhead q_a1_heardWord q_a1_heardAnswer m_length out.2.1 out.2.2.1 out.2.2.2.1 out.2.2.2.2.1 out.2.2.2.2.2.1 m_bytes out.2.2.2.2.2.2.1 out.2.2.2.2.2.2.2.1 out.2.2.2.2.2.2.2.2.1 out.2.2.2.2.2.2.2.2.2.1 out.2.2.2.2.2.2.2.2.2.2.1 out.2.2.2.2.2.2.2.2.2.2.2.1 out.2.2.2.2.2.2.2.2.2.2.2.2.1 out.2.2.2.2.2.2.2.2.2.2.2.2.2.1 out.2.2.2.2.2.2.2.2.2.2.2.2.2.2.1 out.2.2.2.2.2.2.2.2.2.2.2.2.2.2.2.1 out.2.2.2.2.2.2.2.2.2.2.2.2.2.2.2.2) := by
  refine gm_ofW (cc := cX6_parseInto) (maxL := 3) (ret := (some .int)) (by decide +kernel) rfl (Nat.le_of_ble_eq_true rfl) ?_
  intro p e s m below meth c A C0 hH ls hl
  generalize ([.ref q, .ref q_a1] : List Value).toArray = args at C0 ⊢
  have hl : lv_has ls 3 [(0, .ref q), (1, .ref q_a1)] := hl
  generalize s.heap = H at hH ⊢
  generalize ([] : List Loc) = locs at hH ⊢
  obtain ⟨hx, hb, hml, hr, hown, hts, hA, hK, hX, hlocks⟩ := id C0
  unfold fX6_parseInto at h
  refine lv_aload_n hx hb dX6_parseInto_0 rfl (lv_at hl 1 rfl) ?_
  obtain ⟨o1, ho1, h⟩ := gm_bind_e h
  refine gm_callV (As := []) (rest := []) (n := 0) (ci := 9) (q0 := 2) C0 hH (mX9_empty l dC dI cI q_a1 q_a1_alikeTo q_a1_ending q_a1_meaning q_a1_cost q_a1_kind q_a1_want q_a1_saidAhead q_a1_heardWord q_a1_heardAnswer m_a1_words m_a1_people m_a1_said m_a1_undos m_a1_heard m_a1_alikeTo    ho1) gX6_parseInto_X9_empty rfl (by decide +kernel) ⟨rfl, rfl, Nat.le_of_ble_eq_true rfl, Nat.le_of_ble_eq_true rfl⟩ gm_T_ok (fun _ => trivial) [2, 6] rfl rfl rfl [0] rfl rfl rfl rfl hl.1 rfl (Nat.le_of_ble_eq_true rfl) dX6_parseInto_1 ⟨Nat.zero_le _, Nat.zero_le _⟩ (fun H locs hH => ?_)
  have hH : gm_H (dC, dI) A s (wX6_parseInto cI q q_bytes q_a1 q_a1_ending q_a1_meaning q_a1_cost q_a1_alikeTo q_a1_kind q_a1_want q_a1_saidAhead q_a1_heardWord q_a1_heardAnswer m_length m_items m_place m_start m_token m_number m_bytes o1.1 o1.2.1 o1.2.2.1 o1.2.2.2.1 o1.2.2.2.2.1 m_a1_ending m_a1_meaning m_a1_cost o1.2.2.2.2.2 m_a1_kind m_a1_want) H locs := hH
  refine lv_aload_n hx hb dX6_parseInto_4 rfl (lv_at hl 0 rfl) ?_
  refine lv_iconst (v := 0) hx hb dX6_parseInto_5 (by decide) ?_
  refine gm_putf (ci := 6) C0 hH inX6_parseInto_X6 tyX6_ok nmX6 0 3 1 rfl rfl (by decide) rfl rfl rfl rfl rfl (Nat.le_of_ble_eq_true rfl) dX6_parseInto_6 (fun H locs hH => ?_)
  have hH : gm_H (dC, dI) A s (wX6_parseInto cI q q_bytes q_a1 q_a1_ending q_a1_meaning q_a1_cost q_a1_alikeTo q_a1_kind q_a1_want q_a1_saidAhead q_a1_heardWord q_a1_heardAnswer m_length m_items 0 m_start m_token m_number m_bytes o1.1 o1.2.1 o1.2.2.1 o1.2.2.2.1 o1.2.2.2.2.1 m_a1_ending m_a1_meaning m_a1_cost o1.2.2.2.2.2 m_a1_kind m_a1_want) H locs := hH
  refine lv_aload_n hx hb dX6_parseInto_9 rfl (lv_at hl 0 rfl) ?_
  obtain ⟨o2, ho2, h⟩ := gm_bind_e h
  refine gm_callV (As := []) (rest := []) (n := 0) (ci := 6) (q0 := 0) C0 hH (mX6_take l dC dI cI q q_bytes m_length m_items 0 m_start m_token m_number m_bytes    ho2) gX6_parseInto_X6_take rfl (by decide +kernel) ⟨rfl, rfl, Nat.le_of_ble_eq_true rfl, Nat.le_of_ble_eq_true rfl⟩ gm_T_ok (fun _ => trivial) [0, 1] rfl rfl rfl [0] rfl rfl rfl rfl hl.1 rfl (Nat.le_of_ble_eq_true rfl) dX6_parseInto_10 ⟨Nat.zero_le _, Nat.zero_le _⟩ (fun H locs hH => ?_)
  have hH : gm_H (dC, dI) A s (wX6_parseInto cI q q_bytes q_a1 q_a1_ending q_a1_meaning q_a1_cost q_a1_alikeTo q_a1_kind q_a1_want q_a1_saidAhead q_a1_heardWord q_a1_heardAnswer m_length m_items o2.1 o2.2.1 o2.2.2.1 o2.2.2.2 m_bytes o1.1 o1.2.1 o1.2.2.1 o1.2.2.2.1 o1.2.2.2.2.1 m_a1_ending m_a1_meaning m_a1_cost o1.2.2.2.2.2 m_a1_kind m_a1_want) H locs := hH
  refine lv_aload_n hx hb dX6_parseInto_13 rfl (lv_at hl 0 rfl) ?_
  refine va_ldcS hx hb hown hX.2.1.1 dX6_parseInto_14 ?_
  obtain ⟨o3, ho3, h⟩ := gm_bind_e h
  refine gm_callV (As := [.ref (adK 0)]) (rest := []) (n := 1) (ci := 6) (q0 := 0) C0 hH (mX6_isLetters l dC dI cI q q_bytes m_length m_items o2.1 o2.2.1 o2.2.2.1 o2.2.2.2 m_bytes 0 adK adV (by decide) ho3) gX6_parseInto_X6_isLetters rfl (by decide +kernel) ⟨rfl, rfl, Nat.le_of_ble_eq_true rfl, Nat.le_of_ble_eq_true rfl⟩ (gm_XR_ok adK adV) (fun h => h) [0, 1] rfl rfl rfl [0] rfl rfl rfl rfl hl.1 rfl (Nat.le_of_ble_eq_true rfl) dX6_parseInto_16 ⟨Nat.zero_le _, Nat.zero_le _⟩ (fun H locs hH => ?_)
  have hH : gm_H (dC, dI) A s (wX6_parseInto cI q q_bytes q_a1 q_a1_ending q_a1_meaning q_a1_cost q_a1_alikeTo q_a1_kind q_a1_want q_a1_saidAhead q_a1_heardWord q_a1_heardAnswer m_length m_items o2.1 o2.2.1 o2.2.2.1 o2.2.2.2 m_bytes o1.1 o1.2.1 o1.2.2.1 o1.2.2.2.1 o1.2.2.2.2.1 m_a1_ending m_a1_meaning m_a1_cost o1.2.2.2.2.2 m_a1_kind m_a1_want) H locs := hH
  refine lv_if_eq (tgt := 29) hx hb dX6_parseInto_19 (by decide) (fun hc4 => ?_) (fun hc4 => ?_)
  · replace h := gm_pos hc4 h
    refine lv_aload_n hx hb dX6_parseInto_29 rfl (lv_at hl 0 rfl) ?_
    refine gm_get (ci := 6) C0 hH inX6_parseInto_X6 0 4 2 rfl rfl (by decide) rfl rfl dX6_parseInto_30 ?_
    obtain rfl := Option.some.inj h
    exact gm_iret C0 hH dX6_parseInto_33
  · replace h := gm_neg hc4 h
    refine lv_aload_n hx hb dX6_parseInto_22 rfl (lv_at hl 0 rfl) ?_
    obtain ⟨o5, ho5, h⟩ := gm_bind_e h
    refine gm_callV (As := []) (rest := []) (n := 0) (ci := 6) (q0 := 0) C0 hH (mX6_takesStop l dC dI cI q q_bytes m_length m_items o2.1 o2.2.1 o2.2.2.1 o2.2.2.2 m_bytes    ho5) gX6_parseInto_X6_takesStop rfl (by decide +kernel) ⟨rfl, rfl, Nat.le_of_ble_eq_true rfl, Nat.le_of_ble_eq_true rfl⟩ gm_T_ok (fun _ => trivial) [0, 1] rfl rfl rfl [0] rfl rfl rfl rfl hl.1 rfl (Nat.le_of_ble_eq_true rfl) dX6_parseInto_23 ⟨Nat.zero_le _, Nat.zero_le _⟩ (fun H locs hH => ?_)
    have hH : gm_H (dC, dI) A s (wX6_parseInto cI q q_bytes q_a1 q_a1_ending q_a1_meaning q_a1_cost q_a1_alikeTo q_a1_kind q_a1_want q_a1_saidAhead q_a1_heardWord q_a1_heardAnswer m_length m_items o5.2.1 o5.2.2.1 o5.2.2.2.1 o5.2.2.2.2 m_bytes o1.1 o1.2.1 o1.2.2.1 o1.2.2.2.1 o1.2.2.2.2.1 m_a1_ending m_a1_meaning m_a1_cost o1.2.2.2.2.2 m_a1_kind m_a1_want) H locs := hH
    refine lv_if_ne (tgt := 34) hx hb dX6_parseInto_26 (by decide) (fun hc6 => ?_) (fun hc6 => ?_)
    · replace h := gm_neg hc6 h
      refine lv_aload_n hx hb dX6_parseInto_34 rfl (lv_at hl 0 rfl) ?_
      refine lv_iconst (v := 1) hx hb dX6_parseInto_35 (by decide) ?_
      refine gm_putf (ci := 6) C0 hH inX6_parseInto_X6 tyX6_ok nmX6 0 2 3 rfl rfl (by decide) rfl rfl rfl rfl rfl (Nat.le_of_ble_eq_true rfl) dX6_parseInto_36 (fun H locs hH => ?_)
      have hH : gm_H (dC, dI) A s (wX6_parseInto cI q q_bytes q_a1 q_a1_ending q_a1_meaning q_a1_cost q_a1_alikeTo q_a1_kind q_a1_want q_a1_saidAhead q_a1_heardWord q_a1_heardAnswer m_length 1 o5.2.1 o5.2.2.1 o5.2.2.2.1 o5.2.2.2.2 m_bytes o1.1 o1.2.1 o1.2.2.1 o1.2.2.2.1 o1.2.2.2.2.1 m_a1_ending m_a1_meaning m_a1_cost o1.2.2.2.2.2 m_a1_kind m_a1_want) H locs := hH
      refine lv_iconst (v := 0) hx hb dX6_parseInto_39 (by decide) ?_
      refine lv_istore_n (lv' := [(2, .int 0), (0, .ref q), (1, .ref q_a1)]) hx hb dX6_parseInto_40 rfl hl (by decide) rfl (fun ls hl => ?_)
      unfold fX6_parseInto_b41 at h
      exact tX6_parseInto_b41 C0  _ _ _ _ _ _ _ _ _ _ _ _ _ _ _ _ _ _ _ h hH (lv_sub hl [1, 2, 0] rfl)
    · replace h := gm_pos hc6 h
      refine lv_aload_n hx hb dX6_parseInto_29 rfl (lv_at hl 0 rfl) ?_
      refine gm_get (ci := 6) C0 hH inX6_parseInto_X6 0 4 2 rfl rfl (by decide) rfl rfl dX6_parseInto_30 ?_
      obtain rfl := Option.some.inj h
      exact gm_iret C0 hH dX6_parseInto_33
