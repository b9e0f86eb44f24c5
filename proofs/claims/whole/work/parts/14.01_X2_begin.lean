/-! X2_begin -/
abbrev wX2_begin (q q_chimesOfFirst q_chimesOfSecond q_lasts : Nat) (m_words : Int32) (m_saidAtFirst : Int32) (m_asked : Int32) (m_longest : Int32) (m_shortest : Int32) : va_W := [(q, .inr (2, [.ref q_chimesOfFirst, .ref q_chimesOfSecond, .ref q_lasts, .int m_words, .int m_saidAtFirst, .int m_asked, .int m_longest, .int m_shortest]))]
abbrev rX2_begin : Room := { frames := 1, cells := 0, slots := 0, locals := 21 }
def fX2_begin (N : Nat) (m_words : Int32) (m_saidAtFirst : Int32) (m_asked : Int32) (x1 : Int32) (x2 : Int32) (x3 : Int32) : Option (Int32 × Int32 × Int32) := gm_let ((if 10 < x1 then 10 else x1) : Int32) (fun (v1 : Int32) => gm_let ((x2 &&& 1023) : Int32) (fun (v2 : Int32) => some (v1, v2, x3)))
set_option maxRecDepth 20000 in
theorem inX2_begin_X2 : ∀ w ∈ u_ws RX2 TX2 8, w ∈ wsX2_begin := fun w h => by
  obtain ⟨k, hk, rfl⟩ := List.mem_map.mp h
  have hk2 := List.mem_range.mp hk
  exact List.mem_of_getElem? (i := 8 + k) (by rcases (show k = 0 ∨ k = 1 ∨ k = 2 ∨ k = 3 ∨ k = 4 ∨ k = 5 ∨ k = 6 ∨ k = 7 by omega) with rfl | rfl | rfl | rfl | rfl | rfl | rfl | rfl <;> rfl)
set_option maxRecDepth 100000 in
set_option maxHeartbeats 4000000 in
theorem mX2_begin (l : Launch) (dC : Nat → ClassId) (dI : Nat → Nat → Nat) (q q_chimesOfFirst q_chimesOfSecond q_lasts : Nat) (m_words : Int32) (m_saidAtFirst : Int32) (m_asked : Int32) (m_longest : Int32) (m_shortest : Int32) (x1 : Int32) (x2 : Int32) (x3 : Int32)  {N : Nat} {out : Int32 × Int32 × Int32} (h : fX2_begin N m_words m_saidAtFirst m_asked x1 x2 x3 = some out) : gm_Met l yX2_begin wsX2_begin rX2_begin (dC, dI) [] gm_T [.ref q, .int x1, .int x2, .int x3] (wX2_begin  q q_chimesOfFirst q_chimesOfSecond q_lasts m_words m_saidAtFirst m_asked m_longest m_shortest) none (wX2_begin  q q_chimesOfFirst q_chimesOfSecond q_lasts out.1 out.2.1 out.2.2 m_longest m_shortest) := by
  refine gm_ofW (cc := cX2_begin) (maxL := 4) (ret := none) (by decide +kernel) rfl (Nat.le_of_ble_eq_true rfl) ?_
  intro p e s m below meth c A C0 hH ls hl
  generalize ([.ref q, .int x1, .int x2, .int x3] : List Value).toArray = args at C0 ⊢
  have hl : lv_has ls 4 [(0, .ref q), (1, .int x1), (2, .int x2), (3, .int x3)] := hl
  generalize s.heap = H at hH ⊢
  generalize ([] : List Loc) = locs at hH ⊢
  obtain ⟨hx, hb, hml, hr, hown, hts, hA, hK, hX, hlocks⟩ := id C0
  unfold fX2_begin at h
  refine lv_aload_n hx hb dX2_begin_0 rfl (lv_at hl 0 rfl) ?_
  refine lv_iload_n hx hb dX2_begin_1 rfl (lv_at hl 1 rfl) ?_
  refine lv_bipush (v := 10) hx hb dX2_begin_2 (by decide) ?_
  refine va_mmin hx hb (by rw [hml]; exact hl.1.symm) hown (gm_at C0 1 rfl) (gm_at C0 2 rfl) (gm_at C0 3 rfl) (gm_at C0 4 rfl) (by decide) (Nat.le_of_ble_eq_true rfl) (by decide) (by decide) dX2_begin_4 ?_
  refine lv_topi (fun v1 ev1 => ?_)
  replace h := gm_let_e ev1 h
  refine gm_putf (ci := 2) C0 hH inX2_begin_X2 tyX2_ok nmX2 0 3 5 rfl rfl (by decide) rfl rfl rfl rfl rfl (Nat.le_of_ble_eq_true rfl) dX2_begin_7 (fun H locs hH => ?_)
  have hH : gm_H (dC, dI) A s (wX2_begin  q q_chimesOfFirst q_chimesOfSecond q_lasts v1 m_saidAtFirst m_asked m_longest m_shortest) H locs := hH
  refine lv_aload_n hx hb dX2_begin_10 rfl (lv_at hl 0 rfl) ?_
  refine lv_iload_n hx hb dX2_begin_11 rfl (lv_at hl 2 rfl) ?_
  refine lv_sipush (v := 1023) hx hb dX2_begin_12 (by decide) ?_
  refine lv_iand hx hb dX2_begin_15 ?_
  refine lv_topi (fun v2 ev2 => ?_)
  replace h := gm_let_e ev2 h
  refine gm_putf (ci := 2) C0 hH inX2_begin_X2 tyX2_ok nmX2 0 4 6 rfl rfl (by decide) rfl rfl rfl rfl rfl (Nat.le_of_ble_eq_true rfl) dX2_begin_16 (fun H locs hH => ?_)
  have hH : gm_H (dC, dI) A s (wX2_begin  q q_chimesOfFirst q_chimesOfSecond q_lasts v1 v2 m_asked m_longest m_shortest) H locs := hH
  refine lv_aload_n hx hb dX2_begin_19 rfl (lv_at hl 0 rfl) ?_
  refine lv_iload_n hx hb dX2_begin_20 rfl (lv_at hl 3 rfl) ?_
  refine gm_putf (ci := 2) C0 hH inX2_begin_X2 tyX2_ok nmX2 0 5 7 rfl rfl (by decide) rfl rfl rfl rfl rfl (Nat.le_of_ble_eq_true rfl) dX2_begin_21 (fun H locs hH => ?_)
  have hH : gm_H (dC, dI) A s (wX2_begin  q q_chimesOfFirst q_chimesOfSecond q_lasts v1 v2 x3 m_longest m_shortest) H locs := hH
  obtain rfl := Option.some.inj h
  exact gm_vret C0 hH dX2_begin_24
