/-! X2_answered -/
abbrev wX2_answered (q q_chimesOfFirst q_chimesOfSecond q_lasts : Nat) (m_words : Int32) (m_saidAtFirst : Int32) (m_asked : Int32) (m_longest : Int32) (m_shortest : Int32) : va_W := [(q, .inr (2, [.ref q_chimesOfFirst, .ref q_chimesOfSecond, .ref q_lasts, .int m_words, .int m_saidAtFirst, .int m_asked, .int m_longest, .int m_shortest]))]
abbrev rX2_answered : Room := { frames := 1, cells := 0, slots := 0, locals := 20 }
def fX2_answered (N : Nat) (m_saidAtFirst : Int32) (x1 : Int32) : Option (Int32) := gm_bind (fJ6_bitCount_0f7a4 N x1) (fun o1 => gm_bind (fJ6_bitCount_0f7a4 N m_saidAtFirst) (fun o2 => some ((o1 - o2))))
set_option maxRecDepth 20000 in
theorem inX2_answered_X2 : ∀ w ∈ u_ws RX2 TX2 8, w ∈ wsX2_answered := fun w h => by
  obtain ⟨k, hk, rfl⟩ := List.mem_map.mp h
  have hk2 := List.mem_range.mp hk
  exact List.mem_of_getElem? (i := 9 + k) (by rcases (show k = 0 ∨ k = 1 ∨ k = 2 ∨ k = 3 ∨ k = 4 ∨ k = 5 ∨ k = 6 ∨ k = 7 by omega) with rfl | rfl | rfl | rfl | rfl | rfl | rfl | rfl <;> rfl)
set_option maxRecDepth 100000 in
set_option maxHeartbeats 4000000 in
theorem mX2_answered (l : Launch) (dC : Nat → ClassId) (dI : Nat → Nat → Nat) (q q_chimesOfFirst q_chimesOfSecond q_lasts : Nat) (m_words : Int32) (m_saidAtFirst : Int32) (m_asked : Int32) (m_longest : Int32) (m_shortest : Int32) (x1 : Int32)  {N : Nat} {out : Int32} (h : fX2_answered N m_saidAtFirst x1 = some out) : gm_Met l yX2_answered wsX2_answered rX2_answered (dC, dI) [] gm_T [.ref q, .int x1] (wX2_answered  q q_chimesOfFirst q_chimesOfSecond q_lasts m_words m_saidAtFirst m_asked m_longest m_shortest) (some (.int out)) (wX2_answered  q q_chimesOfFirst q_chimesOfSecond q_lasts m_words m_saidAtFirst m_asked m_longest m_shortest) := by
  refine gm_ofW (cc := cX2_answered) (maxL := 2) (ret := (some .int)) (by decide +kernel) rfl (Nat.le_of_ble_eq_true rfl) ?_
  intro p e s m below meth c A C0 hH ls hl
  generalize ([.ref q, .int x1] : List Value).toArray = args at C0 ⊢
  have hl : lv_has ls 2 [(0, .ref q), (1, .int x1)] := hl
  generalize s.heap = H at hH ⊢
  generalize ([] : List Loc) = locs at hH ⊢
  obtain ⟨hx, hb, hml, hr, hown, hts, hA, hK, hX, hlocks⟩ := id C0
  unfold fX2_answered at h
  refine lv_iload_n hx hb dX2_answered_0 rfl (lv_at hl 1 rfl) ?_
  obtain ⟨o1, ho1, h⟩ := gm_bind_e h
  refine gm_callS (As := [.int x1]) (rest := []) (n := 1) C0 hH (mJ6_bitCount_0f7a4 l dC dI    x1   ho1) gX2_answered_J6_bitCount_0f7a4 rfl (by decide +kernel) ⟨rfl, rfl, Nat.le_of_ble_eq_true rfl, Nat.le_of_ble_eq_true rfl⟩ gm_T_ok (fun _ => trivial) [] rfl rfl rfl [] rfl rfl hl.1 rfl (Nat.le_of_ble_eq_true rfl) dX2_answered_1 ⟨Nat.zero_le _, Nat.zero_le _⟩ (fun H locs hH => ?_)
  have hH : gm_H (dC, dI) A s (wX2_answered  q q_chimesOfFirst q_chimesOfSecond q_lasts m_words m_saidAtFirst m_asked m_longest m_shortest) H locs := hH
  refine lv_aload_n hx hb dX2_answered_4 rfl (lv_at hl 0 rfl) ?_
  refine gm_get (ci := 2) C0 hH inX2_answered_X2 0 4 1 rfl rfl (by decide) rfl rfl dX2_answered_5 ?_
  obtain ⟨o2, ho2, h⟩ := gm_bind_e h
  refine gm_callS (As := [.int m_saidAtFirst]) (rest := [.int o1]) (n := 1) C0 hH (mJ6_bitCount_0f7a4 l dC dI    m_saidAtFirst   ho2) gX2_answered_J6_bitCount_0f7a4 rfl (by decide +kernel) ⟨rfl, rfl, Nat.le_of_ble_eq_true rfl, Nat.le_of_ble_eq_true rfl⟩ gm_T_ok (fun _ => trivial) [] rfl rfl rfl [] rfl rfl hl.1 rfl (Nat.le_of_ble_eq_true rfl) dX2_answered_8 ⟨Nat.zero_le _, Nat.zero_le _⟩ (fun H locs hH => ?_)
  have hH : gm_H (dC, dI) A s (wX2_answered  q q_chimesOfFirst q_chimesOfSecond q_lasts m_words m_saidAtFirst m_asked m_longest m_shortest) H locs := hH
  refine lv_isub hx hb dX2_answered_11 ?_
  obtain rfl := Option.some.inj h
  exact gm_iret C0 hH dX2_answered_12
