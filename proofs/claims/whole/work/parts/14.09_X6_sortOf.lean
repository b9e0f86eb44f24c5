/-! X6_sortOf -/
abbrev rX6_sortOf : Room := { frames := 0, cells := 0, slots := 0, locals := 0 }
def fX6_sortOf_b28 (N : Nat)  (x0 : Int32) : Option (Int32) := (if x0 = 59 then some (3) else some (4))
def fX6_sortOf_b14 (N : Nat)  (x0 : Int32) : Option (Int32) := (if x0 < 48 then (fX6_sortOf_b28 N  x0) else (if 57 < x0 then (fX6_sortOf_b28 N  x0) else some (2)))
def fX6_sortOf (N : Nat)  (x0 : Int32) : Option (Int32) := (if x0 < 97 then (fX6_sortOf_b14 N  x0) else (if 122 < x0 then (fX6_sortOf_b14 N  x0) else some (1)))
set_option maxRecDepth 100000 in
set_option maxHeartbeats 4000000 in
theorem tX6_sortOf_b28 {p : Program} {l : Launch} {e : Env} {s : State} {m : MethodId} {args : Array Value} {below : List Frame} {meth : Method} {c : Code} {A : Nat → Prop} {dC : Nat → ClassId} {dI : Nat → Nat → Nat} {x0 : Int32} (C0 : gm_C p s m args meth c (dC, dI) [] A gm_T RX6 cX6_sortOf 1 (some .int) wsX6_sortOf) {N : Nat} {out : Int32}    {H : Heap} {locs : List Loc} {ls : Array Slot} (h : fX6_sortOf_b28 N  x0 = some out) (hH : gm_H (dC, dI) A s ([] : va_W) H locs) (hl : lv_has ls 1 [(0, .int x0)]) : W p l e rX6_sortOf s m args below meth c H locs 0 0 (MQ below (gm_Q (dC, dI) [] A (some (.int out)) ([] : va_W)) args s 0 0 A) (F0 m 28 ls []) := by
  obtain ⟨hx, hb, hml, hr, hown, hts, hA, hK, hX, hlocks⟩ := id C0
  unfold fX6_sortOf_b28 at h
  refine lv_iload_n hx hb dX6_sortOf_28 rfl (lv_at hl 0 rfl) ?_
  refine lv_bipush (v := 59) hx hb dX6_sortOf_29 (by decide) ?_
  refine lv_icmp_ne (tgt := 38) hx hb dX6_sortOf_31 (by decide) (fun hc3 => ?_) (fun hc3 => ?_)
  · replace h := gm_neg hc3 h
    refine lv_iconst (v := 4) hx hb dX6_sortOf_38 (by decide) ?_
    obtain rfl := Option.some.inj h
    exact gm_iret C0 hH dX6_sortOf_39
  · replace h := gm_pos hc3 h
    refine lv_iconst (v := 3) hx hb dX6_sortOf_34 (by decide) ?_
    refine lv_goto (tgt := 39) hx hb dX6_sortOf_35 (by decide) ?_
    obtain rfl := Option.some.inj h
    exact gm_iret C0 hH dX6_sortOf_39
set_option maxRecDepth 100000 in
set_option maxHeartbeats 4000000 in
theorem tX6_sortOf_b14 {p : Program} {l : Launch} {e : Env} {s : State} {m : MethodId} {args : Array Value} {below : List Frame} {meth : Method} {c : Code} {A : Nat → Prop} {dC : Nat → ClassId} {dI : Nat → Nat → Nat} {x0 : Int32} (C0 : gm_C p s m args meth c (dC, dI) [] A gm_T RX6 cX6_sortOf 1 (some .int) wsX6_sortOf) {N : Nat} {out : Int32}    {H : Heap} {locs : List Loc} {ls : Array Slot} (h : fX6_sortOf_b14 N  x0 = some out) (hH : gm_H (dC, dI) A s ([] : va_W) H locs) (hl : lv_has ls 1 [(0, .int x0)]) : W p l e rX6_sortOf s m args below meth c H locs 0 0 (MQ below (gm_Q (dC, dI) [] A (some (.int out)) ([] : va_W)) args s 0 0 A) (F0 m 14 ls []) := by
  obtain ⟨hx, hb, hml, hr, hown, hts, hA, hK, hX, hlocks⟩ := id C0
  unfold fX6_sortOf_b14 at h
  refine lv_iload_n hx hb dX6_sortOf_14 rfl (lv_at hl 0 rfl) ?_
  refine lv_bipush (v := 48) hx hb dX6_sortOf_15 (by decide) ?_
  refine lv_icmp_lt (tgt := 28) hx hb dX6_sortOf_17 (by decide) (fun hc2 => ?_) (fun hc2 => ?_)
  · replace h := gm_pos hc2 h
    exact tX6_sortOf_b28 C0  h hH (lv_sub hl [0] rfl)
  · replace h := gm_neg hc2 h
    refine lv_iload_n hx hb dX6_sortOf_20 rfl (lv_at hl 0 rfl) ?_
    refine lv_bipush (v := 57) hx hb dX6_sortOf_21 (by decide) ?_
    refine lv_icmp_gt (tgt := 28) hx hb dX6_sortOf_23 (by decide) (fun hc4 => ?_) (fun hc4 => ?_)
    · replace h := gm_pos hc4 h
      exact tX6_sortOf_b28 C0  h hH (lv_sub hl [0] rfl)
    · replace h := gm_neg hc4 h
      refine lv_iconst (v := 2) hx hb dX6_sortOf_26 (by decide) ?_
      obtain rfl := Option.some.inj h
      exact gm_iret C0 hH dX6_sortOf_27
set_option maxRecDepth 100000 in
set_option maxHeartbeats 4000000 in
theorem mX6_sortOf (l : Launch) (dC : Nat → ClassId) (dI : Nat → Nat → Nat)  (x0 : Int32)  {N : Nat} {out : Int32} (h : fX6_sortOf N x0 = some out) : gm_Met l yX6_sortOf wsX6_sortOf rX6_sortOf (dC, dI) [] gm_T [.int x0] ([] : va_W) (some (.int out)) ([] : va_W) := by
  refine gm_ofW (cc := cX6_sortOf) (maxL := 1) (ret := (some .int)) (by decide +kernel) rfl (Nat.le_of_ble_eq_true rfl) ?_
  intro p e s m below meth c A C0 hH ls hl
  generalize ([.int x0] : List Value).toArray = args at C0 ⊢
  have hl : lv_has ls 1 [(0, .int x0)] := hl
  generalize s.heap = H at hH ⊢
  generalize ([] : List Loc) = locs at hH ⊢
  obtain ⟨hx, hb, hml, hr, hown, hts, hA, hK, hX, hlocks⟩ := id C0
  unfold fX6_sortOf at h
  refine lv_iload_n hx hb dX6_sortOf_0 rfl (lv_at hl 0 rfl) ?_
  refine lv_bipush (v := 97) hx hb dX6_sortOf_1 (by decide) ?_
  refine lv_icmp_lt (tgt := 14) hx hb dX6_sortOf_3 (by decide) (fun hc1 => ?_) (fun hc1 => ?_)
  · replace h := gm_pos hc1 h
    exact tX6_sortOf_b14 C0  h hH (lv_sub hl [0] rfl)
  · replace h := gm_neg hc1 h
    refine lv_iload_n hx hb dX6_sortOf_6 rfl (lv_at hl 0 rfl) ?_
    refine lv_bipush (v := 122) hx hb dX6_sortOf_7 (by decide) ?_
    refine lv_icmp_gt (tgt := 14) hx hb dX6_sortOf_9 (by decide) (fun hc5 => ?_) (fun hc5 => ?_)
    · replace h := gm_pos hc5 h
      exact tX6_sortOf_b14 C0  h hH (lv_sub hl [0] rfl)
    · replace h := gm_neg hc5 h
      refine lv_iconst (v := 1) hx hb dX6_sortOf_12 (by decide) ?_
      obtain rfl := Option.some.inj h
      exact gm_iret C0 hH dX6_sortOf_13
