/-! X1_cheapest -/
abbrev wX1_cheapest (cI : ClassId) (q q_sayable q_price q_covered q_spent : Nat) (m_sayable : Nat → Int32) (m_price : Nat → Int32) (m_covered : Nat → Int32) (m_spent : Nat → Int32) : va_W := [(q, .inr (1, [.ref q_sayable, .ref q_price, .ref q_covered, .ref q_spent])), (q_sayable, .inl (cI, 10, .inl m_sayable)), (q_price, .inl (cI, 10, .inl m_price)), (q_covered, .inl (cI, 1024, .inl m_covered)), (q_spent, .inl (cI, 1024, .inl m_spent))]
abbrev rX1_cheapest : Room := { frames := 1, cells := 0, slots := 0, locals := 21 }
def fX1_cheapest_b126 (N : Nat) (r16 : (Nat → Int32) → (Nat → Int32) → Int32 → Int32 → Option (Int32 × (Nat → Int32) × (Nat → Int32))) (m_sayable : Nat → Int32) (m_price : Nat → Int32) (m_covered : Nat → Int32) (m_spent : Nat → Int32) (x2 : Int32) (x3 : Int32) (x4 : Int32) (x5 : Int32) : Option (Int32 × (Nat → Int32) × (Nat → Int32)) := (r16 m_covered m_spent x3 ((x5 + 1)))
def fX1_cheapest_b123 (N : Nat) (r16 : (Nat → Int32) → (Nat → Int32) → Int32 → Int32 → Option (Int32 × (Nat → Int32) × (Nat → Int32))) (m_sayable : Nat → Int32) (m_price : Nat → Int32) (m_covered : Nat → Int32) (m_spent : Nat → Int32) (x2 : Int32) (x4 : Int32) (x5 : Int32) : Option (Int32 × (Nat → Int32) × (Nat → Int32)) := (fX1_cheapest_b126 N r16 m_sayable m_price m_covered m_spent x2 x5 x4 x5)
def fX1_cheapest_b88 (N : Nat) (r16 : (Nat → Int32) → (Nat → Int32) → Int32 → Int32 → Option (Int32 × (Nat → Int32) × (Nat → Int32))) (m_sayable : Nat → Int32) (m_price : Nat → Int32) (m_covered : Nat → Int32) (m_spent : Nat → Int32) (x2 : Int32) (x3 : Int32) (x4 : Int32) (x5 : Int32) : Option (Int32 × (Nat → Int32) × (Nat → Int32)) := gm_chk x5 1024 ((if (x2 &&& ((m_covered (Int32.toNatClampNeg x5)) ^^^ (-1))) = 0 then (if x3 = (-1) then (fX1_cheapest_b123 N r16 m_sayable m_price m_covered m_spent x2 x4 x5) else gm_chk x5 1024 (gm_chk x3 1024 ((if (m_spent (Int32.toNatClampNeg x3)) ≤ (m_spent (Int32.toNatClampNeg x5)) then (fX1_cheapest_b126 N r16 m_sayable m_price m_covered m_spent x2 x3 x4 x5) else (fX1_cheapest_b123 N r16 m_sayable m_price m_covered m_spent x2 x4 x5))))) else (fX1_cheapest_b126 N r16 m_sayable m_price m_covered m_spent x2 x3 x4 x5)))
def fX1_cheapest_b16_body (N : Nat)  (m_sayable : Nat → Int32) (m_price : Nat → Int32) (x2 : Int32) (x4 : Int32) (r16 : (Nat → Int32) → (Nat → Int32) → Int32 → Int32 → Option (Int32 × (Nat → Int32) × (Nat → Int32))) (m_covered : Nat → Int32) (m_spent : Nat → Int32) (x3 : Int32) (x5 : Int32) : Option (Int32 × (Nat → Int32) × (Nat → Int32)) := (if x4 ≤ x5 then some (x3, m_covered, m_spent) else (if x5 ≤ 0 then (fX1_cheapest_b88 N r16 m_sayable m_price m_covered m_spent x2 x3 x4 x5) else gm_let ((x5 &&& (x5 - 1)) : Int32) (fun (v10 : Int32) => gm_bind (fJ6_numberOfTrailingZeros_0f7a4 N x5) (fun o11 => gm_chk v10 1024 (gm_chk o11 10 (gm_chk x5 1024 (gm_chk v10 1024 (gm_chk o11 10 (gm_chk x5 1024 ((fX1_cheapest_b88 N r16 m_sayable m_price (upd m_covered (Int32.toNatClampNeg x5) (((m_covered (Int32.toNatClampNeg v10)) ||| (m_sayable (Int32.toNatClampNeg o11))))) (upd m_spent (Int32.toNatClampNeg x5) (((m_spent (Int32.toNatClampNeg v10)) + (m_price (Int32.toNatClampNeg o11))))) x2 x3 x4 x5)))))))))))
def fX1_cheapest_b16 (N : Nat)  (m_sayable : Nat → Int32) (m_price : Nat → Int32) (x2 : Int32) (x4 : Int32) (m_covered : Nat → Int32) (m_spent : Nat → Int32) (x3 : Int32) (x5 : Int32) : Option (Int32 × (Nat → Int32) × (Nat → Int32)) := gm_fix (fX1_cheapest_b16_body N  m_sayable m_price x2 x4) (fun _ _ _ _ => none) N m_covered m_spent x3 x5
def fX1_cheapest (N : Nat) (m_sayable : Nat → Int32) (m_price : Nat → Int32) (m_covered : Nat → Int32) (m_spent : Nat → Int32) (x1 : Int32) (x2 : Int32) : Option (Int32 × (Nat → Int32) × (Nat → Int32)) := gm_let ((if 1024 < ((1 : Int32) <<< (x1 &&& 31)) then 1024 else ((1 : Int32) <<< (x1 &&& 31))) : Int32) (fun (v1 : Int32) => (fX1_cheapest_b16 N  m_sayable m_price x2 v1 m_covered m_spent ((-1)) 0))
set_option maxRecDepth 20000 in
theorem inX1_cheapest_X1 : ∀ w ∈ u_ws RX1 TX1 4, w ∈ wsX1_cheapest := fun w h => by
  obtain ⟨k, hk, rfl⟩ := List.mem_map.mp h
  have hk2 := List.mem_range.mp hk
  exact List.mem_of_getElem? (i := 14 + k) (by rcases (show k = 0 ∨ k = 1 ∨ k = 2 ∨ k = 3 by omega) with rfl | rfl | rfl | rfl <;> rfl)
set_option maxRecDepth 100000 in
set_option maxHeartbeats 4000000 in
theorem tX1_cheapest_b126 {p : Program} {l : Launch} {e : Env} {s : State} {m : MethodId} {args : Array Value} {below : List Frame} {meth : Method} {c : Code} {A : Nat → Prop} {dC : Nat → ClassId} {dI : Nat → Nat → Nat} {cI : ClassId} {q q_sayable q_price q_covered q_spent : Nat} {m_sayable : Nat → Int32} {m_price : Nat → Int32} {m_covered : Nat → Int32} {m_spent : Nat → Int32} {x2 : Int32} {x3 : Int32} {x4 : Int32} {x5 : Int32} (C0 : gm_C p s m args meth c (dC, dI) [(cI, .int)] A gm_T RX1 cX1_cheapest 8 (some .int) wsX1_cheapest) {N : Nat} {out : Int32 × (Nat → Int32) × (Nat → Int32)} {r16 : (Nat → Int32) → (Nat → Int32) → Int32 → Int32 → Option (Int32 × (Nat → Int32) × (Nat → Int32))} (hr16 : ∀ (m_covered : Nat → Int32) (m_spent : Nat → Int32) (x3 : Int32) (x5 : Int32) (H : Heap) (locs : List Loc) (ls : Array Slot), r16 m_covered m_spent x3 x5 = some out → gm_H (dC, dI) A s (wX1_cheapest cI q q_sayable q_price q_covered q_spent m_sayable m_price m_covered m_spent) H locs → lv_has ls 8 [(0, .ref q), (2, .int x2), (3, .int x3), (4, .int x4), (5, .int x5)] → W p l e rX1_cheapest s m args below meth c H locs 0 0 (MQ below (gm_Q (dC, dI) [(cI, .int)] A (some (.int out.1)) (wX1_cheapest cI q q_sayable q_price q_covered q_spent m_sayable m_price out.2.1 out.2.2)) args s 0 0 A) (F0 m 16 ls []))   {H : Heap} {locs : List Loc} {ls : Array Slot} (h : fX1_cheapest_b126 N r16 m_sayable m_price m_covered m_spent x2 x3 x4 x5 = some out) (hH : gm_H (dC, dI) A s (wX1_cheapest cI q q_sayable q_price q_covered q_spent m_sayable m_price m_covered m_spent) H locs) (hl : lv_has ls 8 [(0, .ref q), (2, .int x2), (3, .int x3), (4, .int x4), (5, .int x5)]) : W p l e rX1_cheapest s m args below meth c H locs 0 0 (MQ below (gm_Q (dC, dI) [(cI, .int)] A (some (.int out.1)) (wX1_cheapest cI q q_sayable q_price q_covered q_spent m_sayable m_price out.2.1 out.2.2)) args s 0 0 A) (F0 m 126 ls []) := by
  obtain ⟨hx, hb, hml, hr, hown, hts, hA, hK, hX, hlocks⟩ := id C0
  unfold fX1_cheapest_b126 at h
  refine lv_iinc (v := (x5 + 1)) (lv' := [(5, .int (x5 + 1)), (0, .ref q), (2, .int x2), (3, .int x3), (4, .int x4)]) hx hb dX1_cheapest_126 hl (k := 4) rfl rfl (by decide) rfl (fun ls hl => ?_)
  refine lv_goto (tgt := 16) hx hb dX1_cheapest_129 (by decide) ?_
  exact hr16 _ _ _ _ _ _ _ h hH (lv_sub hl [1, 2, 3, 4, 0] rfl)
set_option maxRecDepth 100000 in
set_option maxHeartbeats 4000000 in
theorem tX1_cheapest_b123 {p : Program} {l : Launch} {e : Env} {s : State} {m : MethodId} {args : Array Value} {below : List Frame} {meth : Method} {c : Code} {A : Nat → Prop} {dC : Nat → ClassId} {dI : Nat → Nat → Nat} {cI : ClassId} {q q_sayable q_price q_covered q_spent : Nat} {m_sayable : Nat → Int32} {m_price : Nat → Int32} {m_covered : Nat → Int32} {m_spent : Nat → Int32} {x2 : Int32} {x4 : Int32} {x5 : Int32} (C0 : gm_C p s m args meth c (dC, dI) [(cI, .int)] A gm_T RX1 cX1_cheapest 8 (some .int) wsX1_cheapest) {N : Nat} {out : Int32 × (Nat → Int32) × (Nat → Int32)} {r16 : (Nat → Int32) → (Nat → Int32) → Int32 → Int32 → Option (Int32 × (Nat → Int32) × (Nat → Int32))} (hr16 : ∀ (m_covered : Nat → Int32) (m_spent : Nat → Int32) (x3 : Int32) (x5 : Int32) (H : Heap) (locs : List Loc) (ls : Array Slot), r16 m_covered m_spent x3 x5 = some out → gm_H (dC, dI) A s (wX1_cheapest cI q q_sayable q_price q_covered q_spent m_sayable m_price m_covered m_spent) H locs → lv_has ls 8 [(0, .ref q), (2, .int x2), (3, .int x3), (4, .int x4), (5, .int x5)] → W p l e rX1_cheapest s m args below meth c H locs 0 0 (MQ below (gm_Q (dC, dI) [(cI, .int)] A (some (.int out.1)) (wX1_cheapest cI q q_sayable q_price q_covered q_spent m_sayable m_price out.2.1 out.2.2)) args s 0 0 A) (F0 m 16 ls []))   {H : Heap} {locs : List Loc} {ls : Array Slot} (h : fX1_cheapest_b123 N r16 m_sayable m_price m_covered m_spent x2 x4 x5 = some out) (hH : gm_H (dC, dI) A s (wX1_cheapest cI q q_sayable q_price q_covered q_spent m_sayable m_price m_covered m_spent) H locs) (hl : lv_has ls 8 [(0, .ref q), (2, .int x2), (4, .int x4), (5, .int x5)]) : W p l e rX1_cheapest s m args below meth c H locs 0 0 (MQ below (gm_Q (dC, dI) [(cI, .int)] A (some (.int out.1)) (wX1_cheapest cI q q_sayable q_price q_covered q_spent m_sayable m_price out.2.1 out.2.2)) args s 0 0 A) (F0 m 123 ls []) := by
  obtain ⟨hx, hb, hml, hr, hown, hts, hA, hK, hX, hlocks⟩ := id C0
  unfold fX1_cheapest_b123 at h
  refine lv_iload hx hb dX1_cheapest_123 (lv_at hl 3 rfl) ?_
  refine lv_istore_n (lv' := [(3, .int x5), (0, .ref q), (2, .int x2), (4, .int x4), (5, .int x5)]) hx hb dX1_cheapest_125 rfl hl (by decide) rfl (fun ls hl => ?_)
  exact tX1_cheapest_b126 C0 hr16 h hH (lv_sub hl [1, 2, 0, 3, 4] rfl)
set_option maxRecDepth 100000 in
set_option maxHeartbeats 4000000 in
theorem tX1_cheapest_b88 {p : Program} {l : Launch} {e : Env} {s : State} {m : MethodId} {args : Array Value} {below : List Frame} {meth : Method} {c : Code} {A : Nat → Prop} {dC : Nat → ClassId} {dI : Nat → Nat → Nat} {cI : ClassId} {q q_sayable q_price q_covered q_spent : Nat} {m_sayable : Nat → Int32} {m_price : Nat → Int32} {m_covered : Nat → Int32} {m_spent : Nat → Int32} {x2 : Int32} {x3 : Int32} {x4 : Int32} {x5 : Int32} (C0 : gm_C p s m args meth c (dC, dI) [(cI, .int)] A gm_T RX1 cX1_cheapest 8 (some .int) wsX1_cheapest) {N : Nat} {out : Int32 × (Nat → Int32) × (Nat → Int32)} {r16 : (Nat → Int32) → (Nat → Int32) → Int32 → Int32 → Option (Int32 × (Nat → Int32) × (Nat → Int32))} (hr16 : ∀ (m_covered : Nat → Int32) (m_spent : Nat → Int32) (x3 : Int32) (x5 : Int32) (H : Heap) (locs : List Loc) (ls : Array Slot), r16 m_covered m_spent x3 x5 = some out → gm_H (dC, dI) A s (wX1_cheapest cI q q_sayable q_price q_covered q_spent m_sayable m_price m_covered m_spent) H locs → lv_has ls 8 [(0, .ref q), (2, .int x2), (3, .int x3), (4, .int x4), (5, .int x5)] → W p l e rX1_cheapest s m args below meth c H locs 0 0 (MQ below (gm_Q (dC, dI) [(cI, .int)] A (some (.int out.1)) (wX1_cheapest cI q q_sayable q_price q_covered q_spent m_sayable m_price out.2.1 out.2.2)) args s 0 0 A) (F0 m 16 ls []))   {H : Heap} {locs : List Loc} {ls : Array Slot} (h : fX1_cheapest_b88 N r16 m_sayable m_price m_covered m_spent x2 x3 x4 x5 = some out) (hH : gm_H (dC, dI) A s (wX1_cheapest cI q q_sayable q_price q_covered q_spent m_sayable m_price m_covered m_spent) H locs) (hl : lv_has ls 8 [(0, .ref q), (2, .int x2), (3, .int x3), (4, .int x4), (5, .int x5)]) : W p l e rX1_cheapest s m args below meth c H locs 0 0 (MQ below (gm_Q (dC, dI) [(cI, .int)] A (some (.int out.1)) (wX1_cheapest cI q q_sayable q_price q_covered q_spent m_sayable m_price out.2.1 out.2.2)) args s 0 0 A) (F0 m 88 ls []) := by
  obtain ⟨hx, hb, hml, hr, hown, hts, hA, hK, hX, hlocks⟩ := id C0
  unfold fX1_cheapest_b88 at h
  refine lv_iload_n hx hb dX1_cheapest_88 rfl (lv_at hl 1 rfl) ?_
  refine lv_aload_n hx hb dX1_cheapest_89 rfl (lv_at hl 0 rfl) ?_
  refine gm_get (ci := 1) C0 hH inX1_cheapest_X1 0 2 5 rfl rfl (by decide) rfl rfl dX1_cheapest_90 ?_
  refine lv_iload hx hb dX1_cheapest_93 (lv_at hl 4 rfl) ?_
  obtain ⟨hi4, h⟩ := gm_chk_e h
  refine gm_iald C0 hH hi4 3 0 rfl rfl dX1_cheapest_95 ?_
  refine lv_iconst (v := (-1)) hx hb dX1_cheapest_96 (by decide) ?_
  refine lv_ixor hx hb dX1_cheapest_97 ?_
  refine lv_iand hx hb dX1_cheapest_98 ?_
  refine lv_if_ne (tgt := 126) hx hb dX1_cheapest_99 (by decide) (fun hc5 => ?_) (fun hc5 => ?_)
  · replace h := gm_neg hc5 h
    exact tX1_cheapest_b126 C0 hr16 h hH (lv_sub hl [0, 1, 2, 3, 4] rfl)
  · replace h := gm_pos hc5 h
    refine lv_iload_n hx hb dX1_cheapest_102 rfl (lv_at hl 2 rfl) ?_
    refine lv_iconst (v := (-1)) hx hb dX1_cheapest_103 (by decide) ?_
    refine lv_icmp_eq (tgt := 123) hx hb dX1_cheapest_104 (by decide) (fun hc6 => ?_) (fun hc6 => ?_)
    · replace h := gm_pos hc6 h
      exact tX1_cheapest_b123 C0 hr16 h hH (lv_sub hl [0, 1, 3, 4] rfl)
    · replace h := gm_neg hc6 h
      refine lv_aload_n hx hb dX1_cheapest_107 rfl (lv_at hl 0 rfl) ?_
      refine gm_get (ci := 1) C0 hH inX1_cheapest_X1 0 3 7 rfl rfl (by decide) rfl rfl dX1_cheapest_108 ?_
      refine lv_iload hx hb dX1_cheapest_111 (lv_at hl 4 rfl) ?_
      obtain ⟨hi7, h⟩ := gm_chk_e h
      refine gm_iald C0 hH hi7 4 0 rfl rfl dX1_cheapest_113 ?_
      refine lv_aload_n hx hb dX1_cheapest_114 rfl (lv_at hl 0 rfl) ?_
      refine gm_get (ci := 1) C0 hH inX1_cheapest_X1 0 3 7 rfl rfl (by decide) rfl rfl dX1_cheapest_115 ?_
      refine lv_iload_n hx hb dX1_cheapest_118 rfl (lv_at hl 2 rfl) ?_
      obtain ⟨hi8, h⟩ := gm_chk_e h
      refine gm_iald C0 hH hi8 4 0 rfl rfl dX1_cheapest_119 ?_
      refine lv_icmp_ge (tgt := 126) hx hb dX1_cheapest_120 (by decide) (fun hc9 => ?_) (fun hc9 => ?_)
      · replace h := gm_pos hc9 h
        exact tX1_cheapest_b126 C0 hr16 h hH (lv_sub hl [0, 1, 2, 3, 4] rfl)
      · replace h := gm_neg hc9 h
        exact tX1_cheapest_b123 C0 hr16 h hH (lv_sub hl [0, 1, 3, 4] rfl)
set_option maxRecDepth 100000 in
set_option maxHeartbeats 4000000 in
theorem tX1_cheapest_b16 {p : Program} {l : Launch} {e : Env} {s : State} {m : MethodId} {args : Array Value} {below : List Frame} {meth : Method} {c : Code} {A : Nat → Prop} {dC : Nat → ClassId} {dI : Nat → Nat → Nat} {cI : ClassId} {q q_sayable q_price q_covered q_spent : Nat} {m_sayable : Nat → Int32} {m_price : Nat → Int32} {x2 : Int32} {x4 : Int32} (C0 : gm_C p s m args meth c (dC, dI) [(cI, .int)] A gm_T RX1 cX1_cheapest 8 (some .int) wsX1_cheapest) {N : Nat} {out : Int32 × (Nat → Int32) × (Nat → Int32)}   : ∀ (n : Nat), ∀ (m_covered : Nat → Int32) (m_spent : Nat → Int32) (x3 : Int32) (x5 : Int32) (H : Heap) (locs : List Loc) (ls : Array Slot), (gm_fix (fX1_cheapest_b16_body N  m_sayable m_price x2 x4) (fun _ _ _ _ => none) n) m_covered m_spent x3 x5 = some out → gm_H (dC, dI) A s (wX1_cheapest cI q q_sayable q_price q_covered q_spent m_sayable m_price m_covered m_spent) H locs → lv_has ls 8 [(0, .ref q), (2, .int x2), (3, .int x3), (4, .int x4), (5, .int x5)] → W p l e rX1_cheapest s m args below meth c H locs 0 0 (MQ below (gm_Q (dC, dI) [(cI, .int)] A (some (.int out.1)) (wX1_cheapest cI q q_sayable q_price q_covered q_spent m_sayable m_price out.2.1 out.2.2)) args s 0 0 A) (F0 m 16 ls []) := by
  obtain ⟨hx, hb, hml, hr, hown, hts, hA, hK, hX, hlocks⟩ := id C0
  intro n
  induction n with
  | zero =>
    intro m_covered m_spent x3 x5 H locs ls h hH hl
    cases h
  | succ n hr16 =>
    intro m_covered m_spent x3 x5 H locs ls h hH hl
    rw [gm_fix_s] at h
    unfold fX1_cheapest_b16_body at h
    refine lv_iload hx hb dX1_cheapest_16 (lv_at hl 4 rfl) ?_
    refine lv_iload hx hb dX1_cheapest_18 (lv_at hl 3 rfl) ?_
    refine lv_icmp_ge (tgt := 132) hx hb dX1_cheapest_20 (by decide) (fun hc2 => ?_) (fun hc2 => ?_)
    · replace h := gm_pos hc2 h
      refine lv_iload_n hx hb dX1_cheapest_132 rfl (lv_at hl 2 rfl) ?_
      obtain rfl := Option.some.inj h
      exact gm_iret C0 hH dX1_cheapest_133
    · replace h := gm_neg hc2 h
      refine lv_iload hx hb dX1_cheapest_23 (lv_at hl 4 rfl) ?_
      refine lv_if_le (tgt := 88) hx hb dX1_cheapest_25 (by decide) (fun hc3 => ?_) (fun hc3 => ?_)
      · replace h := gm_pos hc3 h
        exact tX1_cheapest_b88 C0 hr16 h hH (lv_sub hl [0, 1, 2, 3, 4] rfl)
      · replace h := gm_neg hc3 h
        refine lv_iload hx hb dX1_cheapest_28 (lv_at hl 4 rfl) ?_
        refine lv_iload hx hb dX1_cheapest_30 (lv_at hl 4 rfl) ?_
        refine lv_iconst (v := 1) hx hb dX1_cheapest_32 (by decide) ?_
        refine lv_isub hx hb dX1_cheapest_33 ?_
        refine lv_iand hx hb dX1_cheapest_34 ?_
        refine lv_topi (fun v10 ev10 => ?_)
        replace h := gm_let_e ev10 h
        refine lv_istore (lv' := [(6, .int v10), (0, .ref q), (2, .int x2), (3, .int x3), (4, .int x4), (5, .int x5)]) hx hb dX1_cheapest_35 hl (by decide) rfl (fun ls hl => ?_)
        refine lv_iload hx hb dX1_cheapest_37 (lv_at hl 5 rfl) ?_
        obtain ⟨o11, ho11, h⟩ := gm_bind_e h
        refine gm_callS (As := [.int x5]) (rest := []) (n := 1) C0 hH (mJ6_numberOfTrailingZeros_0f7a4 l dC dI    x5   ho11) gX1_cheapest_J6_numberOfTrailingZeros_0f7a4 rfl (by decide +kernel) ⟨rfl, rfl, Nat.le_of_ble_eq_true rfl, Nat.le_of_ble_eq_true rfl⟩ gm_T_ok (fun _ => trivial) [] rfl rfl rfl [] rfl rfl hl.1 rfl (Nat.le_of_ble_eq_true rfl) dX1_cheapest_39 ⟨Nat.zero_le _, Nat.zero_le _⟩ (fun H locs hH => ?_)
        have hH : gm_H (dC, dI) A s (wX1_cheapest cI q q_sayable q_price q_covered q_spent m_sayable m_price m_covered m_spent) H locs := hH
        refine lv_istore (lv' := [(7, .int o11), (6, .int v10), (0, .ref q), (2, .int x2), (3, .int x3), (4, .int x4), (5, .int x5)]) hx hb dX1_cheapest_42 hl (by decide) rfl (fun ls hl => ?_)
        refine lv_aload_n hx hb dX1_cheapest_44 rfl (lv_at hl 2 rfl) ?_
        refine gm_get (ci := 1) C0 hH inX1_cheapest_X1 0 2 5 rfl rfl (by decide) rfl rfl dX1_cheapest_45 ?_
        refine lv_iload hx hb dX1_cheapest_48 (lv_at hl 6 rfl) ?_
        refine lv_aload_n hx hb dX1_cheapest_50 rfl (lv_at hl 2 rfl) ?_
        refine gm_get (ci := 1) C0 hH inX1_cheapest_X1 0 2 5 rfl rfl (by decide) rfl rfl dX1_cheapest_51 ?_
        refine lv_iload hx hb dX1_cheapest_54 (lv_at hl 1 rfl) ?_
        obtain ⟨hi12, h⟩ := gm_chk_e h
        refine gm_iald C0 hH hi12 3 0 rfl rfl dX1_cheapest_56 ?_
        refine lv_aload_n hx hb dX1_cheapest_57 rfl (lv_at hl 2 rfl) ?_
        refine gm_get (ci := 1) C0 hH inX1_cheapest_X1 0 0 6 rfl rfl (by decide) rfl rfl dX1_cheapest_58 ?_
        refine lv_iload hx hb dX1_cheapest_61 (lv_at hl 0 rfl) ?_
        obtain ⟨hi13, h⟩ := gm_chk_e h
        refine gm_iald C0 hH hi13 1 0 rfl rfl dX1_cheapest_63 ?_
        refine lv_ior hx hb dX1_cheapest_64 ?_
        obtain ⟨hi14, h⟩ := gm_chk_e h
        refine gm_iast C0 hH hi14 3 0 rfl rfl dX1_cheapest_65 (fun H locs hH => ?_)
        have hH : gm_H (dC, dI) A s (wX1_cheapest cI q q_sayable q_price q_covered q_spent m_sayable m_price (upd m_covered (Int32.toNatClampNeg x5) (((m_covered (Int32.toNatClampNeg v10)) ||| (m_sayable (Int32.toNatClampNeg o11))))) m_spent) H locs := hH
        refine lv_aload_n hx hb dX1_cheapest_66 rfl (lv_at hl 2 rfl) ?_
        refine gm_get (ci := 1) C0 hH inX1_cheapest_X1 0 3 7 rfl rfl (by decide) rfl rfl dX1_cheapest_67 ?_
        refine lv_iload hx hb dX1_cheapest_70 (lv_at hl 6 rfl) ?_
        refine lv_aload_n hx hb dX1_cheapest_72 rfl (lv_at hl 2 rfl) ?_
        refine gm_get (ci := 1) C0 hH inX1_cheapest_X1 0 3 7 rfl rfl (by decide) rfl rfl dX1_cheapest_73 ?_
        refine lv_iload hx hb dX1_cheapest_76 (lv_at hl 1 rfl) ?_
        obtain ⟨hi15, h⟩ := gm_chk_e h
        refine gm_iald C0 hH hi15 4 0 rfl rfl dX1_cheapest_78 ?_
        refine lv_aload_n hx hb dX1_cheapest_79 rfl (lv_at hl 2 rfl) ?_
        refine gm_get (ci := 1) C0 hH inX1_cheapest_X1 0 1 8 rfl rfl (by decide) rfl rfl dX1_cheapest_80 ?_
        refine lv_iload hx hb dX1_cheapest_83 (lv_at hl 0 rfl) ?_
        obtain ⟨hi16, h⟩ := gm_chk_e h
        refine gm_iald C0 hH hi16 2 0 rfl rfl dX1_cheapest_85 ?_
        refine lv_iadd hx hb dX1_cheapest_86 ?_
        obtain ⟨hi17, h⟩ := gm_chk_e h
        refine gm_iast C0 hH hi17 4 0 rfl rfl dX1_cheapest_87 (fun H locs hH => ?_)
        have hH : gm_H (dC, dI) A s (wX1_cheapest cI q q_sayable q_price q_covered q_spent m_sayable m_price (upd m_covered (Int32.toNatClampNeg x5) (((m_covered (Int32.toNatClampNeg v10)) ||| (m_sayable (Int32.toNatClampNeg o11))))) (upd m_spent (Int32.toNatClampNeg x5) (((m_spent (Int32.toNatClampNeg v10)) + (m_price (Int32.toNatClampNeg o11)))))) H locs := hH
        exact tX1_cheapest_b88 C0 hr16 h hH (lv_sub hl [2, 3, 4, 5, 6] rfl)
set_option maxRecDepth 100000 in
set_option maxHeartbeats 4000000 in
theorem mX1_cheapest (l : Launch) (dC : Nat → ClassId) (dI : Nat → Nat → Nat) (cI : ClassId) (q q_sayable q_price q_covered q_spent : Nat) (m_sayable : Nat → Int32) (m_price : Nat → Int32) (m_covered : Nat → Int32) (m_spent : Nat → Int32) (x1 : Int32) (x2 : Int32)  {N : Nat} {out : Int32 × (Nat → Int32) × (Nat → Int32)} (h : fX1_cheapest N m_sayable m_price m_covered m_spent x1 x2 = some out) : gm_Met l yX1_cheapest wsX1_cheapest rX1_cheapest (dC, dI) [(cI, .int)] gm_T [.ref q, .int x1, .int x2] (wX1_cheapest cI q q_sayable q_price q_covered q_spent m_sayable m_price m_covered m_spent) (some (.int out.1)) (wX1_cheapest cI q q_sayable q_price q_covered q_spent m_sayable m_price out.2.1 out.2.2) := by
  refine gm_ofW (cc := cX1_cheapest) (maxL := 8) (ret := (some .int)) (by decide +kernel) rfl (Nat.le_of_ble_eq_true rfl) ?_
  intro p e s m below meth c A C0 hH ls hl
  generalize ([.ref q, .int x1, .int x2] : List Value).toArray = args at C0 ⊢
  have hl : lv_has ls 8 [(0, .ref q), (1, .int x1), (2, .int x2)] := hl
  generalize s.heap = H at hH ⊢
  generalize ([] : List Loc) = locs at hH ⊢
  obtain ⟨hx, hb, hml, hr, hown, hts, hA, hK, hX, hlocks⟩ := id C0
  unfold fX1_cheapest at h
  refine lv_iconst (v := (-1)) hx hb dX1_cheapest_0 (by decide) ?_
  refine lv_istore_n (lv' := [(3, .int (-1)), (0, .ref q), (1, .int x1), (2, .int x2)]) hx hb dX1_cheapest_1 rfl hl (by decide) rfl (fun ls hl => ?_)
  refine lv_iconst (v := 1) hx hb dX1_cheapest_2 (by decide) ?_
  refine lv_iload_n hx hb dX1_cheapest_3 rfl (lv_at hl 2 rfl) ?_
  refine lv_ishl hx hb dX1_cheapest_4 ?_
  refine lv_sipush (v := 1024) hx hb dX1_cheapest_5 (by decide) ?_
  refine va_mmin hx hb (by rw [hml]; exact hl.1.symm) hown (gm_at C0 1 rfl) (gm_at C0 2 rfl) (gm_at C0 3 rfl) (gm_at C0 4 rfl) (by decide) (Nat.le_of_ble_eq_true rfl) (by decide) (by decide) dX1_cheapest_8 ?_
  refine lv_topi (fun v1 ev1 => ?_)
  replace h := gm_let_e ev1 h
  refine lv_istore (lv' := [(4, .int v1), (3, .int (-1)), (0, .ref q), (1, .int x1), (2, .int x2)]) hx hb dX1_cheapest_11 hl (by decide) rfl (fun ls hl => ?_)
  refine lv_iconst (v := 0) hx hb dX1_cheapest_13 (by decide) ?_
  refine lv_istore (lv' := [(5, .int 0), (4, .int v1), (3, .int (-1)), (0, .ref q), (1, .int x1), (2, .int x2)]) hx hb dX1_cheapest_14 hl (by decide) rfl (fun ls hl => ?_)
  unfold fX1_cheapest_b16 at h
  exact tX1_cheapest_b16 C0  _ _ _ _ _ _ _ _ h hH (lv_sub hl [3, 5, 2, 1, 0] rfl)
