/-! X10_fits -/
abbrev rX10_fits : Room := { frames := 0, cells := 0, slots := 0, locals := 0 }
def fX10_fits (N : Nat)  (x0 : Int32) (x1 : Int32) : Option (Int32) := (if x0 < 0 then some (0) else (if x1 ≤ x0 then some (0) else some (1)))
set_option maxRecDepth 100000 in
set_option maxHeartbeats 4000000 in
theorem mX10_fits (l : Launch) (dC : Nat → ClassId) (dI : Nat → Nat → Nat)  (x0 : Int32) (x1 : Int32)  {N : Nat} {out : Int32} (h : fX10_fits N x0 x1 = some out) : gm_Met l yX10_fits wsX10_fits rX10_fits (dC, dI) [] gm_T [.int x0, .int x1] ([] : va_W) (some (.int out)) ([] : va_W) := by
  refine gm_ofW (cc := cX10_fits) (maxL := 2) (ret := (some .boolean)) (by decide +kernel) rfl (Nat.le_of_ble_eq_true rfl) ?_
  intro p e s m below meth c A C0 hH ls hl
  generalize ([.int x0, .int x1] : List Value).toArray = args at C0 ⊢
  have hl : lv_has ls 2 [(0, .int x0), (1, .int x1)] := hl
  generalize s.heap = H at hH ⊢
  generalize ([] : List Loc) = locs at hH ⊢
  obtain ⟨hx, hb, hml, hr, hown, hts, hA, hK, hX, hlocks⟩ := id C0
  unfold fX10_fits at h
  refine lv_iload_n hx hb dX10_fits_0 rfl (lv_at hl 0 rfl) ?_
  refine lv_if_lt (tgt := 13) hx hb dX10_fits_1 (by decide) (fun hc1 => ?_) (fun hc1 => ?_)
  · replace h := gm_pos hc1 h
    refine lv_iconst (v := 0) hx hb dX10_fits_13 (by decide) ?_
    obtain rfl := Option.some.inj h
    exact gm_zret C0 hH (show narrow .boolean (.int 0) = .int 0 by decide) dX10_fits_14
  · replace h := gm_neg hc1 h
    refine lv_iload_n hx hb dX10_fits_4 rfl (lv_at hl 0 rfl) ?_
    refine lv_iload_n hx hb dX10_fits_5 rfl (lv_at hl 1 rfl) ?_
    refine lv_icmp_ge (tgt := 13) hx hb dX10_fits_6 (by decide) (fun hc2 => ?_) (fun hc2 => ?_)
    · replace h := gm_pos hc2 h
      refine lv_iconst (v := 0) hx hb dX10_fits_13 (by decide) ?_
      obtain rfl := Option.some.inj h
      exact gm_zret C0 hH (show narrow .boolean (.int 0) = .int 0 by decide) dX10_fits_14
    · replace h := gm_neg hc2 h
      refine lv_iconst (v := 1) hx hb dX10_fits_9 (by decide) ?_
      refine lv_goto (tgt := 14) hx hb dX10_fits_10 (by decide) ?_
      obtain rfl := Option.some.inj h
      exact gm_zret C0 hH (show narrow .boolean (.int 1) = .int 1 by decide) dX10_fits_14
