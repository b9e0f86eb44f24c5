/-! X2_chimesOfNext -/
abbrev wX2_chimesOfNext (q q_chimesOfFirst q_chimesOfSecond q_lasts : Nat) (m_words : Int32) (m_saidAtFirst : Int32) (m_asked : Int32) (m_longest : Int32) (m_shortest : Int32) : va_W := [(q, .inr (2, [.ref q_chimesOfFirst, .ref q_chimesOfSecond, .ref q_lasts, .int m_words, .int m_saidAtFirst, .int m_asked, .int m_longest, .int m_shortest]))]
abbrev rX2_chimesOfNext : Room := { frames := 2, cells := 0, slots := 0, locals := 41 }
def fX2_chimesOfNext (N : Nat) (m_saidAtFirst : Int32) (x1 : Int32) : Option (Int32) := gm_bind (fX2_answered N m_saidAtFirst x1) (fun o1 => gm_nz 2 ((if (o1 - o1 / 2 * 2) = 0 then some (0) else some (1))))
set_option maxRecDepth 20000 in
theorem inX2_chimesOfNext_X2 : ∀ w ∈ u_ws RX2 TX2 8, w ∈ wsX2_chimesOfNext := fun w h => by
  obtain ⟨k, hk, rfl⟩ := List.mem_map.mp h
  have hk2 := List.mem_range.mp hk
  exact List.mem_of_getElem? (i := 16 + k) (by rcases (show k = 0 ∨ k = 1 ∨ k = 2 ∨ k = 3 ∨ k = 4 ∨ k = 5 ∨ k = 6 ∨ k = 7 by omega) with rfl | rfl | rfl | rfl | rfl | rfl | rfl | rfl <;> rfl)
set_option maxRecDepth 100000 in
set_option maxHeartbeats 4000000 in
theorem mX2_chimesOfNext (l : Launch) (dC : Nat → ClassId) (dI : Nat → Nat → Nat) (q q_chimesOfFirst q_chimesOfSecond q_lasts : Nat) (m_words : Int32) (m_saidAtFirst : Int32) (m_asked : Int32) (m_longest : Int32) (m_shortest : Int32) (x1 : Int32)  {N : Nat} {out : Int32} (h : fX2_chimesOfNext N m_saidAtFirst x1 = some out) : gm_Met l yX2_chimesOfNext wsX2_chimesOfNext rX2_chimesOfNext (dC, dI) [] gm_T [.ref q, .int x1] (wX2_chimesOfNext  q q_chimesOfFirst q_chimesOfSecond q_lasts m_words m_saidAtFirst m_asked m_longest m_shortest) (some (.ref (if out = 0 then q_chimesOfFirst else q_chimesOfSecond))) (wX2_chimesOfNext  q q_chimesOfFirst q_chimesOfSecond q_lasts m_words m_saidAtFirst m_asked m_longest m_shortest) := by
  refine gm_ofW (cc := cX2_chimesOfNext) (maxL := 2) (ret := (some (.array .int))) (by decide +kernel) rfl (Nat.le_of_ble_eq_true rfl) ?_
  intro p e s m below meth c A C0 hH ls hl
  generalize ([.ref q, .int x1] : List Value).toArray = args at C0 ⊢
  have hl : lv_has ls 2 [(0, .ref q), (1, .int x1)] := hl
  generalize s.heap = H at hH ⊢
  generalize ([] : List Loc) = locs at hH ⊢
  obtain ⟨hx, hb, hml, hr, hown, hts, hA, hK, hX, hlocks⟩ := id C0
  unfold fX2_chimesOfNext at h
  refine lv_aload_n hx hb dX2_chimesOfNext_0 rfl (lv_at hl 0 rfl) ?_
  refine lv_iload_n hx hb dX2_chimesOfNext_1 rfl (lv_at hl 1 rfl) ?_
  obtain ⟨o1, ho1, h⟩ := gm_bind_e h
  refine gm_callV (As := [.int x1]) (rest := []) (n := 1) (ci := 2) (q0 := 0) C0 hH (mX2_answered l dC dI  q q_chimesOfFirst q_chimesOfSecond q_lasts m_words m_saidAtFirst m_asked m_longest m_shortest x1   ho1) gX2_chimesOfNext_X2_answered rfl (by decide +kernel) ⟨rfl, rfl, Nat.le_of_ble_eq_true rfl, Nat.le_of_ble_eq_true rfl⟩ gm_T_ok (fun _ => trivial) [0] rfl rfl rfl [] rfl rfl rfl rfl hl.1 rfl (Nat.le_of_ble_eq_true rfl) dX2_chimesOfNext_2 ⟨Nat.zero_le _, Nat.zero_le _⟩ (fun H locs hH => ?_)
  have hH : gm_H (dC, dI) A s (wX2_chimesOfNext  q q_chimesOfFirst q_chimesOfSecond q_lasts m_words m_saidAtFirst m_asked m_longest m_shortest) H locs := hH
  refine lv_iconst (v := 2) hx hb dX2_chimesOfNext_5 (by decide) ?_
  obtain ⟨hz2, h⟩ := gm_nz_e h
  refine lv_irem hx hb dX2_chimesOfNext_6 hz2 ?_
  refine lv_if_ne (tgt := 17) hx hb dX2_chimesOfNext_7 (by decide) (fun hc3 => ?_) (fun hc3 => ?_)
  · replace h := gm_neg hc3 h
    refine lv_aload_n hx hb dX2_chimesOfNext_17 rfl (lv_at hl 0 rfl) ?_
    refine gm_get (ci := 2) C0 hH inX2_chimesOfNext_X2 0 1 2 rfl rfl (by decide) rfl rfl dX2_chimesOfNext_18 ?_
    obtain rfl := Option.some.inj h
    exact gm_aret C0 hH dX2_chimesOfNext_21
  · replace h := gm_pos hc3 h
    refine lv_aload_n hx hb dX2_chimesOfNext_10 rfl (lv_at hl 0 rfl) ?_
    refine gm_get (ci := 2) C0 hH inX2_chimesOfNext_X2 0 0 1 rfl rfl (by decide) rfl rfl dX2_chimesOfNext_11 ?_
    refine lv_goto (tgt := 21) hx hb dX2_chimesOfNext_14 (by decide) ?_
    obtain rfl := Option.some.inj h
    exact gm_aret C0 hH dX2_chimesOfNext_21
