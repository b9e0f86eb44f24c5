/-! X10_refuse -/
abbrev wX10_refuse (q q_now q_draft q_images q_kinds q_text q_duel q_cover q_clashes q_tally q_sayableByPair q_chosenPairs : Nat) (m_imagesKept : Int32) (m_bads : Int32) (m_nos : Int32) (m_fulls : Int32) (m_above : Int64) (m_below : Int64) : va_W := [(q, .inr (10, [.ref q_now, .ref q_draft, .ref q_images, .int m_imagesKept, .ref q_kinds, .ref q_text, .ref q_duel, .ref q_cover, .int m_bads, .int m_nos, .int m_fulls, .long m_above, .long m_below, .ref q_clashes, .ref q_tally, .ref q_sayableByPair, .ref q_chosenPairs]))]
abbrev rX10_refuse : Room := { frames := 0, cells := 0, slots := 0, locals := 0 }
def fX10_refuse (N : Nat) (m_bads : Int32) (m_nos : Int32) (m_fulls : Int32) (x1 : Int32) : Option (Int32 × Int32 × Int32 × Int32) := (if x1 = (-2) then gm_let ((m_bads + 1) : Int32) (fun (v5 : Int32) => some (x1, v5, m_nos, m_fulls)) else (if x1 = (-3) then gm_let ((m_nos + 1) : Int32) (fun (v4 : Int32) => some (x1, m_bads, v4, m_fulls)) else gm_let ((m_fulls + 1) : Int32) (fun (v3 : Int32) => some (x1, m_bads, m_nos, v3))))
set_option maxRecDepth 20000 in
theorem inX10_refuse_X10 : ∀ w ∈ u_ws RX10 TX10 17, w ∈ wsX10_refuse := fun w h => by
  obtain ⟨k, hk, rfl⟩ := List.mem_map.mp h
  have hk2 := List.mem_range.mp hk
  exact List.mem_of_getElem? (i := 4 + k) (by rcases (show k = 0 ∨ k = 1 ∨ k = 2 ∨ k = 3 ∨ k = 4 ∨ k = 5 ∨ k = 6 ∨ k = 7 ∨ k = 8 ∨ k = 9 ∨ k = 10 ∨ k = 11 ∨ k = 12 ∨ k = 13 ∨ k = 14 ∨ k = 15 ∨ k = 16 by omega) with rfl | rfl | rfl | rfl | rfl | rfl | rfl | rfl | rfl | rfl | rfl | rfl | rfl | rfl | rfl | rfl | rfl <;> rfl)
set_option maxRecDepth 100000 in
set_option maxHeartbeats 4000000 in
theorem mX10_refuse (l : Launch) (dC : Nat → ClassId) (dI : Nat → Nat → Nat) (q q_now q_draft q_images q_kinds q_text q_duel q_cover q_clashes q_tally q_sayableByPair q_chosenPairs : Nat) (m_imagesKept : Int32) (m_bads : Int32) (m_nos : Int32) (m_fulls : Int32) (m_above : Int64) (m_below : Int64) (x1 : Int32)  {N : Nat} {out : Int32 × Int32 × Int32 × Int32} (h : fX10_refuse N m_bads m_nos m_fulls x1 = some out) : gm_Met l yX10_refuse wsX10_refuse rX10_refuse (dC, dI) [] gm_T [.ref q, .int x1] (wX10_refuse  q q_now q_draft q_images q_kinds q_text q_duel q_cover q_clashes q_tally q_sayableByPair q_chosenPairs m_imagesKept m_bads m_nos m_fulls m_above m_below) (some (.int out.1)) (wX10_refuse  q q_now q_draft q_images q_kinds q_text q_duel q_cover q_clashes q_tally q_sayableByPair q_chosenPairs m_imagesKept out.2.1 out.2.2.1 out.2.2.2 m_above m_below) := by
  refine gm_ofW (cc := cX10_refuse) (maxL := 2) (ret := (some .int)) (by decide +kernel) rfl (Nat.le_of_ble_eq_true rfl) ?_
  intro p e s m below meth c A C0 hH ls hl
  generalize ([.ref q, .int x1] : List Value).toArray = args at C0 ⊢
  have hl : lv_has ls 2 [(0, .ref q), (1, .int x1)] := hl
  generalize s.heap = H at hH ⊢
  generalize ([] : List Loc) = locs at hH ⊢
  obtain ⟨hx, hb, hml, hr, hown, hts, hA, hK, hX, hlocks⟩ := id C0
  unfold fX10_refuse at h
  refine lv_iload_n hx hb dX10_refuse_0 rfl (lv_at hl 1 rfl) ?_
  refine lv_bipush (v := (-2)) hx hb dX10_refuse_1 (by decide) ?_
  refine lv_icmp_ne (tgt := 19) hx hb dX10_refuse_3 (by decide) (fun hc1 => ?_) (fun hc1 => ?_)
  · replace h := gm_neg hc1 h
    refine lv_iload_n hx hb dX10_refuse_19 rfl (lv_at hl 1 rfl) ?_
    refine lv_bipush (v := (-3)) hx hb dX10_refuse_20 (by decide) ?_
    refine lv_icmp_ne (tgt := 38) hx hb dX10_refuse_22 (by decide) (fun hc2 => ?_) (fun hc2 => ?_)
    · replace h := gm_neg hc2 h
      refine lv_aload_n hx hb dX10_refuse_38 rfl (lv_at hl 0 rfl) ?_
      refine lv_dup hx hb dX10_refuse_39 rfl ?_
      refine gm_get (ci := 10) C0 hH inX10_refuse_X10 0 10 3 rfl rfl (by decide) rfl rfl dX10_refuse_40 ?_
      refine lv_iconst (v := 1) hx hb dX10_refuse_43 (by decide) ?_
      refine lv_iadd hx hb dX10_refuse_44 ?_
      refine lv_topi (fun v3 ev3 => ?_)
      replace h := gm_let_e ev3 h
      refine gm_putf (ci := 10) C0 hH inX10_refuse_X10 tyX10_ok nmX10 0 10 3 rfl rfl (by decide) rfl rfl rfl rfl rfl (Nat.le_of_ble_eq_true rfl) dX10_refuse_45 (fun H locs hH => ?_)
      have hH : gm_H (dC, dI) A s (wX10_refuse  q q_now q_draft q_images q_kinds q_text q_duel q_cover q_clashes q_tally q_sayableByPair q_chosenPairs m_imagesKept m_bads m_nos v3 m_above m_below) H locs := hH
      refine lv_iload_n hx hb dX10_refuse_48 rfl (lv_at hl 1 rfl) ?_
      obtain rfl := Option.some.inj h
      exact gm_iret C0 hH dX10_refuse_49
    · replace h := gm_pos hc2 h
      refine lv_aload_n hx hb dX10_refuse_25 rfl (lv_at hl 0 rfl) ?_
      refine lv_dup hx hb dX10_refuse_26 rfl ?_
      refine gm_get (ci := 10) C0 hH inX10_refuse_X10 0 9 2 rfl rfl (by decide) rfl rfl dX10_refuse_27 ?_
      refine lv_iconst (v := 1) hx hb dX10_refuse_30 (by decide) ?_
      refine lv_iadd hx hb dX10_refuse_31 ?_
      refine lv_topi (fun v4 ev4 => ?_)
      replace h := gm_let_e ev4 h
      refine gm_putf (ci := 10) C0 hH inX10_refuse_X10 tyX10_ok nmX10 0 9 2 rfl rfl (by decide) rfl rfl rfl rfl rfl (Nat.le_of_ble_eq_true rfl) dX10_refuse_32 (fun H locs hH => ?_)
      have hH : gm_H (dC, dI) A s (wX10_refuse  q q_now q_draft q_images q_kinds q_text q_duel q_cover q_clashes q_tally q_sayableByPair q_chosenPairs m_imagesKept m_bads v4 m_fulls m_above m_below) H locs := hH
      refine lv_goto (tgt := 48) hx hb dX10_refuse_35 (by decide) ?_
      refine lv_iload_n hx hb dX10_refuse_48 rfl (lv_at hl 1 rfl) ?_
      obtain rfl := Option.some.inj h
      exact gm_iret C0 hH dX10_refuse_49
  · replace h := gm_pos hc1 h
    refine lv_aload_n hx hb dX10_refuse_6 rfl (lv_at hl 0 rfl) ?_
    refine lv_dup hx hb dX10_refuse_7 rfl ?_
    refine gm_get (ci := 10) C0 hH inX10_refuse_X10 0 8 1 rfl rfl (by decide) rfl rfl dX10_refuse_8 ?_
    refine lv_iconst (v := 1) hx hb dX10_refuse_11 (by decide) ?_
    refine lv_iadd hx hb dX10_refuse_12 ?_
    refine lv_topi (fun v5 ev5 => ?_)
    replace h := gm_let_e ev5 h
    refine gm_putf (ci := 10) C0 hH inX10_refuse_X10 tyX10_ok nmX10 0 8 1 rfl rfl (by decide) rfl rfl rfl rfl rfl (Nat.le_of_ble_eq_true rfl) dX10_refuse_13 (fun H locs hH => ?_)
    have hH : gm_H (dC, dI) A s (wX10_refuse  q q_now q_draft q_images q_kinds q_text q_duel q_cover q_clashes q_tally q_sayableByPair q_chosenPairs m_imagesKept v5 m_nos m_fulls m_above m_below) H locs := hH
    refine lv_goto (tgt := 48) hx hb dX10_refuse_16 (by decide) ?_
    refine lv_iload_n hx hb dX10_refuse_48 rfl (lv_at hl 1 rfl) ?_
    obtain rfl := Option.some.inj h
    exact gm_iret C0 hH dX10_refuse_49
