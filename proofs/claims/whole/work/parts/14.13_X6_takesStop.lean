/-! X6_takesStop -/
abbrev wX6_takesStop (cI : ClassId) (q q_bytes : Nat) (m_length : Int32) (m_items : Int32) (m_place : Int32) (m_start : Int32) (m_token : Int32) (m_number : Int32) (m_bytes : Nat → Int32) : va_W := [(q, .inr (6, [.ref q_bytes, .int m_length, .int m_items, .int m_place, .int m_start, .int m_token, .int m_number])), (q_bytes, .inl (cI, 150, .inl m_bytes))]
abbrev rX6_takesStop : Room := { frames := 2, cells := 0, slots := 0, locals := 41 }
def fX6_takesStop (N : Nat) (m_length : Int32) (m_place : Int32) (m_start : Int32) (m_token : Int32) (m_number : Int32) (m_bytes : Nat → Int32)  : Option (Int32 × Int32 × Int32 × Int32 × Int32) := gm_bind (fX6_take N m_length m_place m_start m_token m_number m_bytes) (fun o1 => (if o1.2.2.1 = 3 then some (1, o1.1, o1.2.1, o1.2.2.1, o1.2.2.2) else some (0, o1.1, o1.2.1, o1.2.2.1, o1.2.2.2)))
set_option maxRecDepth 20000 in
theorem inX6_takesStop_X6 : ∀ w ∈ u_ws RX6 TX6 7, w ∈ wsX6_takesStop := fun w h => by
  obtain ⟨k, hk, rfl⟩ := List.mem_map.mp h
  have hk2 := List.mem_range.mp hk
  exact List.mem_of_getElem? (i := 19 + k) (by rcases (show k = 0 ∨ k = 1 ∨ k = 2 ∨ k = 3 ∨ k = 4 ∨ k = 5 ∨ k = 6 by omega) with rfl | rfl | rfl | rfl | rfl | rfl | rfl <;> rfl)
set_option maxRecDepth 100000 in
set_option maxHeartbeats 4000000 in
theorem mX6_takesStop (l : Launch) (dC : Nat → ClassId) (dI : Nat → Nat → Nat) (cI : ClassId) (q q_bytes : Nat) (m_length : Int32) (m_items : Int32) (m_place : Int32) (m_start : Int32) (m_token : Int32) (m_number : Int32) (m_bytes : Nat → Int32)   {N : Nat} {out : Int32 × Int32 × Int32 × Int32 × Int32} (h : fX6_takesStop N m_length m_place m_start m_token m_number m_bytes = some out) : gm_Met l yX6_takesStop wsX6_takesStop rX6_takesStop (dC, dI) [(cI, .int)] gm_T [.ref q] (wX6_takesStop cI q q_bytes m_length m_items m_place m_start m_token m_number m_bytes) (some (.int out.1)) (wX6_takesStop cI q q_bytes m_length m_items out.2.1 out.2.2.1 out.2.2.2.1 out.2.2.2.2 m_bytes) := by
  refine gm_ofW (cc := cX6_takesStop) (maxL := 1) (ret := (some .boolean)) (by decide +kernel) rfl (Nat.le_of_ble_eq_true rfl) ?_
  intro p e s m below meth c A C0 hH ls hl
  generalize ([.ref q] : List Value).toArray = args at C0 ⊢
  have hl : lv_has ls 1 [(0, .ref q)] := hl
  generalize s.heap = H at hH ⊢
  generalize ([] : List Loc) = locs at hH ⊢
  obtain ⟨hx, hb, hml, hr, hown, hts, hA, hK, hX, hlocks⟩ := id C0
  unfold fX6_takesStop at h
  refine lv_aload_n hx hb dX6_takesStop_0 rfl (lv_at hl 0 rfl) ?_
  obtain ⟨o1, ho1, h⟩ := gm_bind_e h
  refine gm_callV (As := []) (rest := []) (n := 0) (ci := 6) (q0 := 0) C0 hH (mX6_take l dC dI cI q q_bytes m_length m_items m_place m_start m_token m_number m_bytes    ho1) gX6_takesStop_X6_take rfl (by decide +kernel) ⟨rfl, rfl, Nat.le_of_ble_eq_true rfl, Nat.le_of_ble_eq_true rfl⟩ gm_T_ok (fun _ => trivial) [0, 1] rfl rfl rfl [0] rfl rfl rfl rfl hl.1 rfl (Nat.le_of_ble_eq_true rfl) dX6_takesStop_1 ⟨Nat.zero_le _, Nat.zero_le _⟩ (fun H locs hH => ?_)
  have hH : gm_H (dC, dI) A s (wX6_takesStop cI q q_bytes m_length m_items o1.1 o1.2.1 o1.2.2.1 o1.2.2.2 m_bytes) H locs := hH
  refine lv_aload_n hx hb dX6_takesStop_4 rfl (lv_at hl 0 rfl) ?_
  refine gm_get (ci := 6) C0 hH inX6_takesStop_X6 0 5 1 rfl rfl (by decide) rfl rfl dX6_takesStop_5 ?_
  refine lv_iconst (v := 3) hx hb dX6_takesStop_8 (by decide) ?_
  refine lv_icmp_ne (tgt := 16) hx hb dX6_takesStop_9 (by decide) (fun hc2 => ?_) (fun hc2 => ?_)
  · replace h := gm_neg hc2 h
    refine lv_iconst (v := 0) hx hb dX6_takesStop_16 (by decide) ?_
    obtain rfl := Option.some.inj h
    exact gm_zret C0 hH (show narrow .boolean (.int 0) = .int 0 by decide) dX6_takesStop_17
  · replace h := gm_pos hc2 h
    refine lv_iconst (v := 1) hx hb dX6_takesStop_12 (by decide) ?_
    refine lv_goto (tgt := 17) hx hb dX6_takesStop_13 (by decide) ?_
    obtain rfl := Option.some.inj h
    exact gm_zret C0 hH (show narrow .boolean (.int 1) = .int 1 by decide) dX6_takesStop_17
