/-! J6_numberOfTrailingZeros_0f7a4 -/
abbrev rJ6_numberOfTrailingZeros_0f7a4 : Room := { frames := 0, cells := 0, slots := 0, locals := 0 }
def fJ6_numberOfTrailingZeros_0f7a4_b74 (N : Nat)  (x0 : Int32) (x1 : Int32) : Option (Int32) := some ((x1 + ((Int32.toUInt32 x0 >>> (Int32.toUInt32 1 &&& Int32.toUInt32 31)).toInt32)))
def fJ6_numberOfTrailingZeros_0f7a4_b62 (N : Nat)  (x0 : Int32) (x1 : Int32) : Option (Int32) := (if x0 ≤ 4 then (fJ6_numberOfTrailingZeros_0f7a4_b74 N  x0 x1) else gm_let (((Int32.toUInt32 x0 >>> (Int32.toUInt32 2 &&& Int32.toUInt32 31)).toInt32) : Int32) (fun (v7 : Int32) => (fJ6_numberOfTrailingZeros_0f7a4_b74 N  v7 ((x1 + 2)))))
def fJ6_numberOfTrailingZeros_0f7a4_b49 (N : Nat)  (x0 : Int32) (x1 : Int32) : Option (Int32) := (if x0 ≤ 16 then (fJ6_numberOfTrailingZeros_0f7a4_b62 N  x0 x1) else gm_let (((Int32.toUInt32 x0 >>> (Int32.toUInt32 4 &&& Int32.toUInt32 31)).toInt32) : Int32) (fun (v8 : Int32) => (fJ6_numberOfTrailingZeros_0f7a4_b62 N  v8 ((x1 + 4)))))
def fJ6_numberOfTrailingZeros_0f7a4_b34 (N : Nat)  (x0 : Int32) (x1 : Int32) : Option (Int32) := (if x0 ≤ 256 then (fJ6_numberOfTrailingZeros_0f7a4_b49 N  x0 x1) else gm_let (((Int32.toUInt32 x0 >>> (Int32.toUInt32 8 &&& Int32.toUInt32 31)).toInt32) : Int32) (fun (v9 : Int32) => (fJ6_numberOfTrailingZeros_0f7a4_b49 N  v9 ((x1 + 8)))))
def fJ6_numberOfTrailingZeros_0f7a4 (N : Nat)  (x0 : Int32) : Option (Int32) := gm_let (((x0 ^^^ (-1)) &&& (x0 - 1)) : Int32) (fun (v1 : Int32) => (if 0 < v1 then (if v1 ≤ 65536 then (fJ6_numberOfTrailingZeros_0f7a4_b34 N  v1 1) else gm_let (((Int32.toUInt32 v1 >>> (Int32.toUInt32 16 &&& Int32.toUInt32 31)).toInt32) : Int32) (fun (v10 : Int32) => (fJ6_numberOfTrailingZeros_0f7a4_b34 N  v10 ((1 + 16))))) else some ((v1 &&& 32))))
set_option maxRecDepth 100000 in
set_option maxHeartbeats 4000000 in
theorem tJ6_numberOfTrailingZeros_0f7a4_b74 {p : Program} {l : Launch} {e : Env} {s : State} {m : MethodId} {args : Array Value} {below : List Frame} {meth : Method} {c : Code} {A : Nat → Prop} {dC : Nat → ClassId} {dI : Nat → Nat → Nat} {x0 : Int32} {x1 : Int32} (C0 : gm_C p s m args meth c (dC, dI) [] A gm_T RJ6 cJ6_numberOfTrailingZeros_0f7a4 2 (some .int) wsJ6_numberOfTrailingZeros_0f7a4) {N : Nat} {out : Int32}    {H : Heap} {locs : List Loc} {ls : Array Slot} (h : fJ6_numberOfTrailingZeros_0f7a4_b74 N  x0 x1 = some out) (hH : gm_H (dC, dI) A s ([] : va_W) H locs) (hl : lv_has ls 2 [(0, .int x0), (1, .int x1)]) : W p l e rJ6_numberOfTrailingZeros_0f7a4 s m args below meth c H locs 0 0 (MQ below (gm_Q (dC, dI) [] A (some (.int out)) ([] : va_W)) args s 0 0 A) (F0 m 74 ls []) := by
  obtain ⟨hx, hb, hml, hr, hown, hts, hA, hK, hX, hlocks⟩ := id C0
  unfold fJ6_numberOfTrailingZeros_0f7a4_b74 at h
  refine lv_iload_n hx hb dJ6_numberOfTrailingZeros_0f7a4_74 rfl (lv_at hl 1 rfl) ?_
  refine lv_iload_n hx hb dJ6_numberOfTrailingZeros_0f7a4_75 rfl (lv_at hl 0 rfl) ?_
  refine lv_iconst (v := 1) hx hb dJ6_numberOfTrailingZeros_0f7a4_76 (by decide) ?_
  refine lv_iushr hx hb dJ6_numberOfTrailingZeros_0f7a4_77 rfl ?_
  refine lv_iadd hx hb dJ6_numberOfTrailingZeros_0f7a4_78 ?_
  obtain rfl := Option.some.inj h
  exact gm_iret C0 hH dJ6_numberOfTrailingZeros_0f7a4_79
set_option maxRecDepth 100000 in
set_option maxHeartbeats 4000000 in
theorem tJ6_numberOfTrailingZeros_0f7a4_b62 {p : Program} {l : Launch} {e : Env} {s : State} {m : MethodId} {args : Array Value} {below : List Frame} {meth : Method} {c : Code} {A : Nat → Prop} {dC : Nat → ClassId} {dI : Nat → Nat → Nat} {x0 : Int32} {x1 : Int32} (C0 : gm_C p s m args meth c (dC, dI) [] A gm_T RJ6 cJ6_numberOfTrailingZeros_0f7a4 2 (some .int) wsJ6_numberOfTrailingZeros_0f7a4) {N : Nat} {out : Int32}    {H : Heap} {locs : List Loc} {ls : Array Slot} (h : fJ6_numberOfTrailingZeros_0f7a4_b62 N  x0 x1 = some out) (hH : gm_H (dC, dI) A s ([] : va_W) H locs) (hl : lv_has ls 2 [(0, .int x0), (1, .int x1)]) : W p l e rJ6_numberOfTrailingZeros_0f7a4 s m args below meth c H locs 0 0 (MQ below (gm_Q (dC, dI) [] A (some (.int out)) ([] : va_W)) args s 0 0 A) (F0 m 62 ls []) := by
  obtain ⟨hx, hb, hml, hr, hown, hts, hA, hK, hX, hlocks⟩ := id C0
  unfold fJ6_numberOfTrailingZeros_0f7a4_b62 at h
  refine lv_iload_n hx hb dJ6_numberOfTrailingZeros_0f7a4_62 rfl (lv_at hl 0 rfl) ?_
  refine lv_iconst (v := 4) hx hb dJ6_numberOfTrailingZeros_0f7a4_63 (by decide) ?_
  refine lv_icmp_le (tgt := 74) hx hb dJ6_numberOfTrailingZeros_0f7a4_64 (by decide) (fun hc6 => ?_) (fun hc6 => ?_)
  · replace h := gm_pos hc6 h
    exact tJ6_numberOfTrailingZeros_0f7a4_b74 C0  h hH (lv_sub hl [0, 1] rfl)
  · replace h := gm_neg hc6 h
    refine lv_iinc (v := (x1 + 2)) (lv' := [(1, .int (x1 + 2)), (0, .int x0)]) hx hb dJ6_numberOfTrailingZeros_0f7a4_67 hl (k := 1) rfl rfl (by decide) rfl (fun ls hl => ?_)
    refine lv_iload_n hx hb dJ6_numberOfTrailingZeros_0f7a4_70 rfl (lv_at hl 1 rfl) ?_
    refine lv_iconst (v := 2) hx hb dJ6_numberOfTrailingZeros_0f7a4_71 (by decide) ?_
    refine lv_iushr hx hb dJ6_numberOfTrailingZeros_0f7a4_72 rfl ?_
    refine lv_topi (fun v7 ev7 => ?_)
    replace h := gm_let_e ev7 h
    refine lv_istore_n (lv' := [(0, .int v7), (1, .int (x1 + 2))]) hx hb dJ6_numberOfTrailingZeros_0f7a4_73 rfl hl (by decide) rfl (fun ls hl => ?_)
    exact tJ6_numberOfTrailingZeros_0f7a4_b74 C0  h hH (lv_sub hl [0, 1] rfl)
set_option maxRecDepth 100000 in
set_option maxHeartbeats 4000000 in
theorem tJ6_numberOfTrailingZeros_0f7a4_b49 {p : Program} {l : Launch} {e : Env} {s : State} {m : MethodId} {args : Array Value} {below : List Frame} {meth : Method} {c : Code} {A : Nat → Prop} {dC : Nat → ClassId} {dI : Nat → Nat → Nat} {x0 : Int32} {x1 : Int32} (C0 : gm_C p s m args meth c (dC, dI) [] A gm_T RJ6 cJ6_numberOfTrailingZeros_0f7a4 2 (some .int) wsJ6_numberOfTrailingZeros_0f7a4) {N : Nat} {out : Int32}    {H : Heap} {locs : List Loc} {ls : Array Slot} (h : fJ6_numberOfTrailingZeros_0f7a4_b49 N  x0 x1 = some out) (hH : gm_H (dC, dI) A s ([] : va_W) H locs) (hl : lv_has ls 2 [(0, .int x0), (1, .int x1)]) : W p l e rJ6_numberOfTrailingZeros_0f7a4 s m args below meth c H locs 0 0 (MQ below (gm_Q (dC, dI) [] A (some (.int out)) ([] : va_W)) args s 0 0 A) (F0 m 49 ls []) := by
  obtain ⟨hx, hb, hml, hr, hown, hts, hA, hK, hX, hlocks⟩ := id C0
  unfold fJ6_numberOfTrailingZeros_0f7a4_b49 at h
  refine lv_iload_n hx hb dJ6_numberOfTrailingZeros_0f7a4_49 rfl (lv_at hl 0 rfl) ?_
  refine lv_bipush (v := 16) hx hb dJ6_numberOfTrailingZeros_0f7a4_50 (by decide) ?_
  refine lv_icmp_le (tgt := 62) hx hb dJ6_numberOfTrailingZeros_0f7a4_52 (by decide) (fun hc5 => ?_) (fun hc5 => ?_)
  · replace h := gm_pos hc5 h
    exact tJ6_numberOfTrailingZeros_0f7a4_b62 C0  h hH (lv_sub hl [0, 1] rfl)
  · replace h := gm_neg hc5 h
    refine lv_iinc (v := (x1 + 4)) (lv' := [(1, .int (x1 + 4)), (0, .int x0)]) hx hb dJ6_numberOfTrailingZeros_0f7a4_55 hl (k := 1) rfl rfl (by decide) rfl (fun ls hl => ?_)
    refine lv_iload_n hx hb dJ6_numberOfTrailingZeros_0f7a4_58 rfl (lv_at hl 1 rfl) ?_
    refine lv_iconst (v := 4) hx hb dJ6_numberOfTrailingZeros_0f7a4_59 (by decide) ?_
    refine lv_iushr hx hb dJ6_numberOfTrailingZeros_0f7a4_60 rfl ?_
    refine lv_topi (fun v8 ev8 => ?_)
    replace h := gm_let_e ev8 h
    refine lv_istore_n (lv' := [(0, .int v8), (1, .int (x1 + 4))]) hx hb dJ6_numberOfTrailingZeros_0f7a4_61 rfl hl (by decide) rfl (fun ls hl => ?_)
    exact tJ6_numberOfTrailingZeros_0f7a4_b62 C0  h hH (lv_sub hl [0, 1] rfl)
set_option maxRecDepth 100000 in
set_option maxHeartbeats 4000000 in
theorem tJ6_numberOfTrailingZeros_0f7a4_b34 {p : Program} {l : Launch} {e : Env} {s : State} {m : MethodId} {args : Array Value} {below : List Frame} {meth : Method} {c : Code} {A : Nat → Prop} {dC : Nat → ClassId} {dI : Nat → Nat → Nat} {x0 : Int32} {x1 : Int32} (C0 : gm_C p s m args meth c (dC, dI) [] A gm_T RJ6 cJ6_numberOfTrailingZeros_0f7a4 2 (some .int) wsJ6_numberOfTrailingZeros_0f7a4) {N : Nat} {out : Int32}    {H : Heap} {locs : List Loc} {ls : Array Slot} (h : fJ6_numberOfTrailingZeros_0f7a4_b34 N  x0 x1 = some out) (hH : gm_H (dC, dI) A s ([] : va_W) H locs) (hl : lv_has ls 2 [(0, .int x0), (1, .int x1)]) : W p l e rJ6_numberOfTrailingZeros_0f7a4 s m args below meth c H locs 0 0 (MQ below (gm_Q (dC, dI) [] A (some (.int out)) ([] : va_W)) args s 0 0 A) (F0 m 34 ls []) := by
  obtain ⟨hx, hb, hml, hr, hown, hts, hA, hK, hX, hlocks⟩ := id C0
  unfold fJ6_numberOfTrailingZeros_0f7a4_b34 at h
  refine lv_iload_n hx hb dJ6_numberOfTrailingZeros_0f7a4_34 rfl (lv_at hl 0 rfl) ?_
  refine lv_sipush (v := 256) hx hb dJ6_numberOfTrailingZeros_0f7a4_35 (by decide) ?_
  refine lv_icmp_le (tgt := 49) hx hb dJ6_numberOfTrailingZeros_0f7a4_38 (by decide) (fun hc4 => ?_) (fun hc4 => ?_)
  · replace h := gm_pos hc4 h
    exact tJ6_numberOfTrailingZeros_0f7a4_b49 C0  h hH (lv_sub hl [0, 1] rfl)
  · replace h := gm_neg hc4 h
    refine lv_iinc (v := (x1 + 8)) (lv' := [(1, .int (x1 + 8)), (0, .int x0)]) hx hb dJ6_numberOfTrailingZeros_0f7a4_41 hl (k := 1) rfl rfl (by decide) rfl (fun ls hl => ?_)
    refine lv_iload_n hx hb dJ6_numberOfTrailingZeros_0f7a4_44 rfl (lv_at hl 1 rfl) ?_
    refine lv_bipush (v := 8) hx hb dJ6_numberOfTrailingZeros_0f7a4_45 (by decide) ?_
    refine lv_iushr hx hb dJ6_numberOfTrailingZeros_0f7a4_47 rfl ?_
    refine lv_topi (fun v9 ev9 => ?_)
    replace h := gm_let_e ev9 h
    refine lv_istore_n (lv' := [(0, .int v9), (1, .int (x1 + 8))]) hx hb dJ6_numberOfTrailingZeros_0f7a4_48 rfl hl (by decide) rfl (fun ls hl => ?_)
    exact tJ6_numberOfTrailingZeros_0f7a4_b49 C0  h hH (lv_sub hl [0, 1] rfl)
set_option maxRecDepth 100000 in
set_option maxHeartbeats 4000000 in
theorem mJ6_numberOfTrailingZeros_0f7a4 (l : Launch) (dC : Nat → ClassId) (dI : Nat → Nat → Nat)  (x0 : Int32)  {N : Nat} {out : Int32} (h : fJ6_numberOfTrailingZeros_0f7a4 N x0 = some out) : gm_Met l yJ6_numberOfTrailingZeros_0f7a4 wsJ6_numberOfTrailingZeros_0f7a4 rJ6_numberOfTrailingZeros_0f7a4 (dC, dI) [] gm_T [.int x0] ([] : va_W) (some (.int out)) ([] : va_W) := by
  refine gm_ofW (cc := cJ6_numberOfTrailingZeros_0f7a4) (maxL := 2) (ret := (some .int)) (by decide +kernel) rfl (Nat.le_of_ble_eq_true rfl) ?_
  intro p e s m below meth c A C0 hH ls hl
  generalize ([.int x0] : List Value).toArray = args at C0 ⊢
  have hl : lv_has ls 2 [(0, .int x0)] := hl
  generalize s.heap = H at hH ⊢
  generalize ([] : List Loc) = locs at hH ⊢
  obtain ⟨hx, hb, hml, hr, hown, hts, hA, hK, hX, hlocks⟩ := id C0
  unfold fJ6_numberOfTrailingZeros_0f7a4 at h
  refine lv_iload_n hx hb dJ6_numberOfTrailingZeros_0f7a4_0 rfl (lv_at hl 0 rfl) ?_
  refine lv_iconst (v := (-1)) hx hb dJ6_numberOfTrailingZeros_0f7a4_1 (by decide) ?_
  refine lv_ixor hx hb dJ6_numberOfTrailingZeros_0f7a4_2 ?_
  refine lv_iload_n hx hb dJ6_numberOfTrailingZeros_0f7a4_3 rfl (lv_at hl 0 rfl) ?_
  refine lv_iconst (v := 1) hx hb dJ6_numberOfTrailingZeros_0f7a4_4 (by decide) ?_
  refine lv_isub hx hb dJ6_numberOfTrailingZeros_0f7a4_5 ?_
  refine lv_iand hx hb dJ6_numberOfTrailingZeros_0f7a4_6 ?_
  refine lv_topi (fun v1 ev1 => ?_)
  replace h := gm_let_e ev1 h
  refine lv_istore_n (lv' := [(0, .int v1)]) hx hb dJ6_numberOfTrailingZeros_0f7a4_7 rfl hl (by decide) rfl (fun ls hl => ?_)
  refine lv_iload_n hx hb dJ6_numberOfTrailingZeros_0f7a4_8 rfl (lv_at hl 0 rfl) ?_
  refine lv_if_gt (tgt := 17) hx hb dJ6_numberOfTrailingZeros_0f7a4_9 (by decide) (fun hc2 => ?_) (fun hc2 => ?_)
  · replace h := gm_pos hc2 h
    refine lv_iconst (v := 1) hx hb dJ6_numberOfTrailingZeros_0f7a4_17 (by decide) ?_
    refine lv_istore_n (lv' := [(1, .int 1), (0, .int v1)]) hx hb dJ6_numberOfTrailingZeros_0f7a4_18 rfl hl (by decide) rfl (fun ls hl => ?_)
    refine lv_iload_n hx hb dJ6_numberOfTrailingZeros_0f7a4_19 rfl (lv_at hl 1 rfl) ?_
    refine lv_ldcw (own := RJ6) (v := 65536) hx hb hown (gm_at C0 1 rfl) dJ6_numberOfTrailingZeros_0f7a4_20 ?_
    refine lv_icmp_le (tgt := 34) hx hb dJ6_numberOfTrailingZeros_0f7a4_23 (by decide) (fun hc3 => ?_) (fun hc3 => ?_)
    · replace h := gm_pos hc3 h
      exact tJ6_numberOfTrailingZeros_0f7a4_b34 C0  h hH (lv_sub hl [1, 0] rfl)
    · replace h := gm_neg hc3 h
      refine lv_iinc (v := (1 + 16)) (lv' := [(1, .int (1 + 16)), (0, .int v1)]) hx hb dJ6_numberOfTrailingZeros_0f7a4_26 hl (k := 0) rfl rfl (by decide) rfl (fun ls hl => ?_)
      refine lv_iload_n hx hb dJ6_numberOfTrailingZeros_0f7a4_29 rfl (lv_at hl 1 rfl) ?_
      refine lv_bipush (v := 16) hx hb dJ6_numberOfTrailingZeros_0f7a4_30 (by decide) ?_
      refine lv_iushr hx hb dJ6_numberOfTrailingZeros_0f7a4_32 rfl ?_
      refine lv_topi (fun v10 ev10 => ?_)
      replace h := gm_let_e ev10 h
      refine lv_istore_n (lv' := [(0, .int v10), (1, .int (1 + 16))]) hx hb dJ6_numberOfTrailingZeros_0f7a4_33 rfl hl (by decide) rfl (fun ls hl => ?_)
      exact tJ6_numberOfTrailingZeros_0f7a4_b34 C0  h hH (lv_sub hl [0, 1] rfl)
  · replace h := gm_neg hc2 h
    refine lv_iload_n hx hb dJ6_numberOfTrailingZeros_0f7a4_12 rfl (lv_at hl 0 rfl) ?_
    refine lv_bipush (v := 32) hx hb dJ6_numberOfTrailingZeros_0f7a4_13 (by decide) ?_
    refine lv_iand hx hb dJ6_numberOfTrailingZeros_0f7a4_15 ?_
    obtain rfl := Option.some.inj h
    exact gm_iret C0 hH dJ6_numberOfTrailingZeros_0f7a4_16

/-! J6_bitCount_0f7a4 -/
abbrev rJ6_bitCount_0f7a4 : Room := { frames := 0, cells := 0, slots := 0, locals := 0 }
def fJ6_bitCount_0f7a4 (N : Nat)  (x0 : Int32) : Option (Int32) := gm_let ((x0 - (((Int32.toUInt32 x0 >>> (Int32.toUInt32 1 &&& Int32.toUInt32 31)).toInt32) &&& 1431655765)) : Int32) (fun (v1 : Int32) => gm_let (((v1 &&& 858993459) + (((Int32.toUInt32 v1 >>> (Int32.toUInt32 2 &&& Int32.toUInt32 31)).toInt32) &&& 858993459)) : Int32) (fun (v2 : Int32) => gm_let (((v2 + ((Int32.toUInt32 v2 >>> (Int32.toUInt32 4 &&& Int32.toUInt32 31)).toInt32)) &&& 252645135) : Int32) (fun (v3 : Int32) => gm_let ((v3 + ((Int32.toUInt32 v3 >>> (Int32.toUInt32 8 &&& Int32.toUInt32 31)).toInt32)) : Int32) (fun (v4 : Int32) => gm_let ((v4 + ((Int32.toUInt32 v4 >>> (Int32.toUInt32 16 &&& Int32.toUInt32 31)).toInt32)) : Int32) (fun (v5 : Int32) => some ((v5 &&& 63)))))))
set_option maxRecDepth 100000 in
set_option maxHeartbeats 4000000 in
theorem mJ6_bitCount_0f7a4 (l : Launch) (dC : Nat → ClassId) (dI : Nat → Nat → Nat)  (x0 : Int32)  {N : Nat} {out : Int32} (h : fJ6_bitCount_0f7a4 N x0 = some out) : gm_Met l yJ6_bitCount_0f7a4 wsJ6_bitCount_0f7a4 rJ6_bitCount_0f7a4 (dC, dI) [] gm_T [.int x0] ([] : va_W) (some (.int out)) ([] : va_W) := by
  refine gm_ofW (cc := cJ6_bitCount_0f7a4) (maxL := 1) (ret := (some .int)) (by decide +kernel) rfl (Nat.le_of_ble_eq_true rfl) ?_
  intro p e s m below meth c A C0 hH ls hl
  generalize ([.int x0] : List Value).toArray = args at C0 ⊢
  have hl : lv_has ls 1 [(0, .int x0)] := hl
  generalize s.heap = H at hH ⊢
  generalize ([] : List Loc) = locs at hH ⊢
  obtain ⟨hx, hb, hml, hr, hown, hts, hA, hK, hX, hlocks⟩ := id C0
  unfold fJ6_bitCount_0f7a4 at h
  refine lv_iload_n hx hb dJ6_bitCount_0f7a4_0 rfl (lv_at hl 0 rfl) ?_
  refine lv_iload_n hx hb dJ6_bitCount_0f7a4_1 rfl (lv_at hl 0 rfl) ?_
  refine lv_iconst (v := 1) hx hb dJ6_bitCount_0f7a4_2 (by decide) ?_
  refine lv_iushr hx hb dJ6_bitCount_0f7a4_3 rfl ?_
  refine lv_ldcw (own := RJ6) (v := 1431655765) hx hb hown (gm_at C0 1 rfl) dJ6_bitCount_0f7a4_4 ?_
  refine lv_iand hx hb dJ6_bitCount_0f7a4_7 ?_
  refine lv_isub hx hb dJ6_bitCount_0f7a4_8 ?_
  refine lv_topi (fun v1 ev1 => ?_)
  replace h := gm_let_e ev1 h
  refine lv_istore_n (lv' := [(0, .int v1)]) hx hb dJ6_bitCount_0f7a4_9 rfl hl (by decide) rfl (fun ls hl => ?_)
  refine lv_iload_n hx hb dJ6_bitCount_0f7a4_10 rfl (lv_at hl 0 rfl) ?_
  refine lv_ldcw (own := RJ6) (v := 858993459) hx hb hown (gm_at C0 2 rfl) dJ6_bitCount_0f7a4_11 ?_
  refine lv_iand hx hb dJ6_bitCount_0f7a4_14 ?_
  refine lv_iload_n hx hb dJ6_bitCount_0f7a4_15 rfl (lv_at hl 0 rfl) ?_
  refine lv_iconst (v := 2) hx hb dJ6_bitCount_0f7a4_16 (by decide) ?_
  refine lv_iushr hx hb dJ6_bitCount_0f7a4_17 rfl ?_
  refine lv_ldcw (own := RJ6) (v := 858993459) hx hb hown (gm_at C0 2 rfl) dJ6_bitCount_0f7a4_18 ?_
  refine lv_iand hx hb dJ6_bitCount_0f7a4_21 ?_
  refine lv_iadd hx hb dJ6_bitCount_0f7a4_22 ?_
  refine lv_topi (fun v2 ev2 => ?_)
  replace h := gm_let_e ev2 h
  refine lv_istore_n (lv' := [(0, .int v2)]) hx hb dJ6_bitCount_0f7a4_23 rfl hl (by decide) rfl (fun ls hl => ?_)
  refine lv_iload_n hx hb dJ6_bitCount_0f7a4_24 rfl (lv_at hl 0 rfl) ?_
  refine lv_iload_n hx hb dJ6_bitCount_0f7a4_25 rfl (lv_at hl 0 rfl) ?_
  refine lv_iconst (v := 4) hx hb dJ6_bitCount_0f7a4_26 (by decide) ?_
  refine lv_iushr hx hb dJ6_bitCount_0f7a4_27 rfl ?_
  refine lv_iadd hx hb dJ6_bitCount_0f7a4_28 ?_
  refine lv_ldcw (own := RJ6) (v := 252645135) hx hb hown (gm_at C0 3 rfl) dJ6_bitCount_0f7a4_29 ?_
  refine lv_iand hx hb dJ6_bitCount_0f7a4_32 ?_
  refine lv_topi (fun v3 ev3 => ?_)
  replace h := gm_let_e ev3 h
  refine lv_istore_n (lv' := [(0, .int v3)]) hx hb dJ6_bitCount_0f7a4_33 rfl hl (by decide) rfl (fun ls hl => ?_)
  refine lv_iload_n hx hb dJ6_bitCount_0f7a4_34 rfl (lv_at hl 0 rfl) ?_
  refine lv_iload_n hx hb dJ6_bitCount_0f7a4_35 rfl (lv_at hl 0 rfl) ?_
  refine lv_bipush (v := 8) hx hb dJ6_bitCount_0f7a4_36 (by decide) ?_
  refine lv_iushr hx hb dJ6_bitCount_0f7a4_38 rfl ?_
  refine lv_iadd hx hb dJ6_bitCount_0f7a4_39 ?_
  refine lv_topi (fun v4 ev4 => ?_)
  replace h := gm_let_e ev4 h
  refine lv_istore_n (lv' := [(0, .int v4)]) hx hb dJ6_bitCount_0f7a4_40 rfl hl (by decide) rfl (fun ls hl => ?_)
  refine lv_iload_n hx hb dJ6_bitCount_0f7a4_41 rfl (lv_at hl 0 rfl) ?_
  refine lv_iload_n hx hb dJ6_bitCount_0f7a4_42 rfl (lv_at hl 0 rfl) ?_
  refine lv_bipush (v := 16) hx hb dJ6_bitCount_0f7a4_43 (by decide) ?_
  refine lv_iushr hx hb dJ6_bitCount_0f7a4_45 rfl ?_
  refine lv_iadd hx hb dJ6_bitCount_0f7a4_46 ?_
  refine lv_topi (fun v5 ev5 => ?_)
  replace h := gm_let_e ev5 h
  refine lv_istore_n (lv' := [(0, .int v5)]) hx hb dJ6_bitCount_0f7a4_47 rfl hl (by decide) rfl (fun ls hl => ?_)
  refine lv_iload_n hx hb dJ6_bitCount_0f7a4_48 rfl (lv_at hl 0 rfl) ?_
  refine lv_bipush (v := 63) hx hb dJ6_bitCount_0f7a4_49 (by decide) ?_
  refine lv_iand hx hb dJ6_bitCount_0f7a4_51 ?_
  obtain rfl := Option.some.inj h
  exact gm_iret C0 hH dJ6_bitCount_0f7a4_52
