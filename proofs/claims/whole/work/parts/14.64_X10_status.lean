/-! X10_status -/
abbrev wX10_status (q q_now q_draft q_images q_kinds q_text q_duel q_cover q_clashes q_tally q_sayableByPair q_chosenPairs : Nat) (m_imagesKept : Int32) (m_bads : Int32) (m_nos : Int32) (m_fulls : Int32) (m_above : Int64) (m_below : Int64) : va_W := [(q, .inr (10, [.ref q_now, .ref q_draft, .ref q_images, .int m_imagesKept, .ref q_kinds, .ref q_text, .ref q_duel, .ref q_cover, .int m_bads, .int m_nos, .int m_fulls, .long m_above, .long m_below, .ref q_clashes, .ref q_tally, .ref q_sayableByPair, .ref q_chosenPairs]))]
abbrev rX10_status : Room := { frames := 1, cells := 0, slots := 0, locals := 21 }
def fX10_status (N : Nat) (m_bads : Int32) (m_nos : Int32) (m_fulls : Int32) (x1 : Int32) : Option (Int32 × Int32 × Int32 × Int32) := (if x1 = 0 then some (m_bads, m_bads, m_nos, m_fulls) else (if x1 = 1 then some (m_nos, m_bads, m_nos, m_fulls) else (if x1 = 2 then some (m_fulls, m_bads, m_nos, m_fulls) else gm_bind (fX10_refuse N m_bads m_nos m_fulls ((-2))) (fun o2 => some ((-1), o2.2.1, o2.2.2.1, o2.2.2.2)))))
set_option maxRecDepth 20000 in
theorem inX10_status_X10 : ∀ w ∈ u_ws RX10 TX10 17, w ∈ wsX10_status := fun w h => by
  obtain ⟨k, hk, rfl⟩ := List.mem_map.mp h
  have hk2 := List.mem_range.mp hk
  exact List.mem_of_getElem? (i := 9 + k) (by rcases (show k = 0 ∨ k = 1 ∨ k = 2 ∨ k = 3 ∨ k = 4 ∨ k = 5 ∨ k = 6 ∨ k = 7 ∨ k = 8 ∨ k = 9 ∨ k = 10 ∨ k = 11 ∨ k = 12 ∨ k = 13 ∨ k = 14 ∨ k = 15 ∨ k = 16 by omega) with rfl | rfl | rfl | rfl | rfl | rfl | rfl | rfl | rfl | rfl | rfl | rfl | rfl | rfl | rfl | rfl | rfl <;> rfl)
set_option maxRecDepth 100000 in
set_option maxHeartbeats 4000000 in
theorem mX10_status (l : Launch) (dC : Nat → ClassId) (dI : Nat → Nat → Nat) (q q_now q_draft q_images q_kinds q_text q_duel q_cover q_clashes q_tally q_sayableByPair q_chosenPairs : Nat) (m_imagesKept : Int32) (m_bads : Int32) (m_nos : Int32) (m_fulls : Int32) (m_above : Int64) (m_below : Int64) (x1 : Int32)  {N : Nat} {out : Int32 × Int32 × Int32 × Int32} (h : fX10_status N m_bads m_nos m_fulls x1 = some out) : gm_Met l yX10_status wsX10_status rX10_status (dC, dI) [] gm_T [.ref q, .int x1] (wX10_status  q q_now q_draft q_images q_kinds q_text q_duel q_cover q_clashes q_tally q_sayableByPair q_chosenPairs m_imagesKept m_bads m_nos m_fulls m_above m_below) (some (.int out.1)) (wX10_status  q q_now q_draft q_images q_kinds q_text q_duel q_cover q_clashes q_tally q_sayableByPair q_chosenPairs m_imagesKept out.2.1 out.2.2.1 out.2.2.2 m_above m_below) := by
  refine gm_ofW (cc := cX10_status) (maxL := 2) (ret := (some .int)) (by decide +kernel) rfl (Nat.le_of_ble_eq_true rfl) ?_
  intro p e s m below meth c A C0 hH ls hl
  generalize ([.ref q, .int x1] : List Value).toArray = args at C0 ⊢
  have hl : lv_has ls 2 [(0, .ref q), (1, .int x1)] := hl
  generalize s.heap = H at hH ⊢
  generalize ([] : List Loc) = locs at hH ⊢
  obtain ⟨hx, hb, hml, hr, hown, hts, hA, hK, hX, hlocks⟩ := id C0
  unfold fX10_status at h
  refine lv_iload_n hx hb dX10_status_0 rfl (lv_at hl 1 rfl) ?_
  by_cases hs1_0 : x1 = 0
  · replace h := gm_pos hs1_0 h
    refine lv_tableIn (tgt := 28) (off := 27) hx hb dX10_status_1 (by rw [hs1_0]; decide) (by rw [hs1_0]; decide) (by rw [hs1_0]; decide) (by decide) ?_
    refine lv_aload_n hx hb dX10_status_28 rfl (lv_at hl 0 rfl) ?_
    refine gm_get (ci := 10) C0 hH inX10_status_X10 0 8 1 rfl rfl (by decide) rfl rfl dX10_status_29 ?_
    obtain rfl := Option.some.inj h
    exact gm_iret C0 hH dX10_status_32
  · replace h := gm_neg hs1_0 h
    by_cases hs1_1 : x1 = 1
    · replace h := gm_pos hs1_1 h
      refine lv_tableIn (tgt := 33) (off := 32) hx hb dX10_status_1 (by rw [hs1_1]; decide) (by rw [hs1_1]; decide) (by rw [hs1_1]; decide) (by decide) ?_
      refine lv_aload_n hx hb dX10_status_33 rfl (lv_at hl 0 rfl) ?_
      refine gm_get (ci := 10) C0 hH inX10_status_X10 0 9 2 rfl rfl (by decide) rfl rfl dX10_status_34 ?_
      obtain rfl := Option.some.inj h
      exact gm_iret C0 hH dX10_status_37
    · replace h := gm_neg hs1_1 h
      by_cases hs1_2 : x1 = 2
      · replace h := gm_pos hs1_2 h
        refine lv_tableIn (tgt := 38) (off := 37) hx hb dX10_status_1 (by rw [hs1_2]; decide) (by rw [hs1_2]; decide) (by rw [hs1_2]; decide) (by decide) ?_
        refine lv_aload_n hx hb dX10_status_38 rfl (lv_at hl 0 rfl) ?_
        refine gm_get (ci := 10) C0 hH inX10_status_X10 0 10 3 rfl rfl (by decide) rfl rfl dX10_status_39 ?_
        obtain rfl := Option.some.inj h
        exact gm_iret C0 hH dX10_status_42
      · replace h := gm_neg hs1_2 h
        refine lv_tableOut (tgt := 43) hx hb dX10_status_1 (by have hj0 := lv_neT hs1_0 (a := 0) rfl; have hj1 := lv_neT hs1_1 (a := 1) rfl; have hj2 := lv_neT hs1_2 (a := 2) rfl; omega) (by decide) ?_
        refine lv_aload_n hx hb dX10_status_43 rfl (lv_at hl 0 rfl) ?_
        refine lv_bipush (v := (-2)) hx hb dX10_status_44 (by decide) ?_
        obtain ⟨o2, ho2, h⟩ := gm_bind_e h
        refine gm_callV (As := [.int (-2)]) (rest := []) (n := 1) (ci := 10) (q0 := 0) C0 hH (mX10_refuse l dC dI  q q_now q_draft q_images q_kinds q_text q_duel q_cover q_clashes q_tally q_sayableByPair q_chosenPairs m_imagesKept m_bads m_nos m_fulls m_above m_below ((-2))   ho2) gX10_status_X10_refuse rfl (by decide +kernel) ⟨rfl, rfl, Nat.le_of_ble_eq_true rfl, Nat.le_of_ble_eq_true rfl⟩ gm_T_ok (fun _ => trivial) [0] rfl rfl rfl [] rfl rfl rfl rfl hl.1 rfl (Nat.le_of_ble_eq_true rfl) dX10_status_46 ⟨Nat.zero_le _, Nat.zero_le _⟩ (fun H locs hH => ?_)
        have hH : gm_H (dC, dI) A s (wX10_status  q q_now q_draft q_images q_kinds q_text q_duel q_cover q_clashes q_tally q_sayableByPair q_chosenPairs m_imagesKept o2.2.1 o2.2.2.1 o2.2.2.2 m_above m_below) H locs := hH
        refine lv_pop hx hb dX10_status_49 rfl ?_
        refine lv_iconst (v := (-1)) hx hb dX10_status_50 (by decide) ?_
        obtain rfl := Option.some.inj h
        exact gm_iret C0 hH dX10_status_51
