/-! X6_put -/
abbrev wX6_put (cI : ClassId) (q q_bytes : Nat) (m_length : Int32) (m_items : Int32) (m_place : Int32) (m_start : Int32) (m_token : Int32) (m_number : Int32) (m_bytes : Nat → Int32) : va_W := [(q, .inr (6, [.ref q_bytes, .int m_length, .int m_items, .int m_place, .int m_start, .int m_token, .int m_number])), (q_bytes, .inl (cI, 150, .inl m_bytes))]
abbrev rX6_put : Room := { frames := 0, cells := 0, slots := 0, locals := 0 }
def fX6_put (N : Nat) (m_length : Int32) (m_bytes : Nat → Int32) (x1 : Int32) : Option (Int32 × Int32 × (Nat → Int32)) := (if m_length < 150 then gm_chk m_length 150 (gm_let ((m_length + 1) : Int32) (fun (v3 : Int32) => some (v3, v3, upd m_bytes (Int32.toNatClampNeg m_length) x1))) else some ((-4), m_length, m_bytes))
set_option maxRecDepth 20000 in
theorem inX6_put_X6 : ∀ w ∈ u_ws RX6 TX6 7, w ∈ wsX6_put := fun w h => by
  obtain ⟨k, hk, rfl⟩ := List.mem_map.mp h
  have hk2 := List.mem_range.mp hk
  exact List.mem_of_getElem? (i := 3 + k) (by rcases (show k = 0 ∨ k = 1 ∨ k = 2 ∨ k = 3 ∨ k = 4 ∨ k = 5 ∨ k = 6 by omega) with rfl | rfl | rfl | rfl | rfl | rfl | rfl <;> rfl)
set_option maxRecDepth 100000 in
set_option maxHeartbeats 4000000 in
theorem mX6_put (l : Launch) (dC : Nat → ClassId) (dI : Nat → Nat → Nat) (cI : ClassId) (q q_bytes : Nat) (m_length : Int32) (m_items : Int32) (m_place : Int32) (m_start : Int32) (m_token : Int32) (m_number : Int32) (m_bytes : Nat → Int32) (x1 : Int32)  {N : Nat} {out : Int32 × Int32 × (Nat → Int32)} (h : fX6_put N m_length m_bytes x1 = some out) : gm_Met l yX6_put wsX6_put rX6_put (dC, dI) [(cI, .int)] gm_T [.ref q, .int x1] (wX6_put cI q q_bytes m_length m_items m_place m_start m_token m_number m_bytes) (some (.int out.1)) (wX6_put cI q q_bytes out.2.1 m_items m_place m_start m_token m_number out.2.2) := by
  refine gm_ofW (cc := cX6_put) (maxL := 2) (ret := (some .int)) (by decide +kernel) rfl (Nat.le_of_ble_eq_true rfl) ?_
  intro p e s m below meth c A C0 hH ls hl
  generalize ([.ref q, .int x1] : List Value).toArray = args at C0 ⊢
  have hl : lv_has ls 2 [(0, .ref q), (1, .int x1)] := hl
  generalize s.heap = H at hH ⊢
  generalize ([] : List Loc) = locs at hH ⊢
  obtain ⟨hx, hb, hml, hr, hown, hts, hA, hK, hX, hlocks⟩ := id C0
  unfold fX6_put at h
  refine lv_aload_n hx hb dX6_put_0 rfl (lv_at hl 0 rfl) ?_
  refine gm_get (ci := 6) C0 hH inX6_put_X6 0 1 1 rfl rfl (by decide) rfl rfl dX6_put_1 ?_
  refine lv_sipush (v := 150) hx hb dX6_put_4 (by decide) ?_
  refine lv_icmp_lt (tgt := 13) hx hb dX6_put_7 (by decide) (fun hc1 => ?_) (fun hc1 => ?_)
  · replace h := gm_pos hc1 h
    refine lv_aload_n hx hb dX6_put_13 rfl (lv_at hl 0 rfl) ?_
    refine gm_get (ci := 6) C0 hH inX6_put_X6 0 0 2 rfl rfl (by decide) rfl rfl dX6_put_14 ?_
    refine lv_aload_n hx hb dX6_put_17 rfl (lv_at hl 0 rfl) ?_
    refine gm_get (ci := 6) C0 hH inX6_put_X6 0 1 1 rfl rfl (by decide) rfl rfl dX6_put_18 ?_
    refine lv_iload_n hx hb dX6_put_21 rfl (lv_at hl 1 rfl) ?_
    obtain ⟨hi2, h⟩ := gm_chk_e h
    refine gm_iast C0 hH hi2 1 0 rfl rfl dX6_put_22 (fun H locs hH => ?_)
    have hH : gm_H (dC, dI) A s (wX6_put cI q q_bytes m_length m_items m_place m_start m_token m_number (upd m_bytes (Int32.toNatClampNeg m_length) x1)) H locs := hH
    refine lv_aload_n hx hb dX6_put_23 rfl (lv_at hl 0 rfl) ?_
    refine lv_dup hx hb dX6_put_24 rfl ?_
    refine gm_get (ci := 6) C0 hH inX6_put_X6 0 1 1 rfl rfl (by decide) rfl rfl dX6_put_25 ?_
    refine lv_iconst (v := 1) hx hb dX6_put_28 (by decide) ?_
    refine lv_iadd hx hb dX6_put_29 ?_
    refine lv_topi (fun v3 ev3 => ?_)
    replace h := gm_let_e ev3 h
    refine gm_putf (ci := 6) C0 hH inX6_put_X6 tyX6_ok nmX6 0 1 1 rfl rfl (by decide) rfl rfl rfl rfl rfl (Nat.le_of_ble_eq_true rfl) dX6_put_30 (fun H locs hH => ?_)
    have hH : gm_H (dC, dI) A s (wX6_put cI q q_bytes v3 m_items m_place m_start m_token m_number (upd m_bytes (Int32.toNatClampNeg m_length) x1)) H locs := hH
    refine lv_aload_n hx hb dX6_put_33 rfl (lv_at hl 0 rfl) ?_
    refine gm_get (ci := 6) C0 hH inX6_put_X6 0 1 1 rfl rfl (by decide) rfl rfl dX6_put_34 ?_
    obtain rfl := Option.some.inj h
    exact gm_iret C0 hH dX6_put_37
  · replace h := gm_neg hc1 h
    refine lv_bipush (v := (-4)) hx hb dX6_put_10 (by decide) ?_
    obtain rfl := Option.some.inj h
    exact gm_iret C0 hH dX6_put_12
