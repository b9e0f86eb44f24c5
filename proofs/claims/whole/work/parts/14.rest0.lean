/-! X1_cheapest -/
abbrev wX1_cheapest (cI : ClassId) (q q_sayable q_price q_covered q_spent : Nat) (m_sayable : Nat → Int32) (m_price : Nat → Int32) (m_covered : Nat → Int32) (m_spent : Nat → Int32) : va_W := [(q, .inr (1, [.ref q_sayable, .ref q_price, .ref q_covered, .ref q_spent])), (q_sayable, .inl (cI, 10, .inl m_sayable)), (q_price, .inl (cI, 10, .inl m_price)), (q_covered, .inl (cI, 1024, .inl m_covered)), (q_spent, .inl (cI, 1024, .inl m_spent))]
abbrev rX1_cheapest : Room := { frames := 1, cells := 0, slots := 0, locals := 21 }
def fX1_cheapest_b126 (N : Nat) (r16 : (Nat → Int32) → (Nat → Int32) → Int32 → Int32 → Option (Int32 × (Nat → Int32) × (Nat → Int32))) (m_sayable : Nat → Int32) (m_price : Nat → Int32) (m_covered : Nat → Int32) (m_spent : Nat → Int32) (x2 : Int32) (x3 : Int32) (x4 : Int32) (x5 : Int32) : Option (Int32 × (Nat → Int32) × (Nat → Int32)) := (r16 m_covered m_spent x3 ((x5 + 1)))
def fX1_cheapest_b123 (N : Nat) (r16 : (Nat → Int32) → (Nat → Int32) → Int32 → Int32 → Option (Int32 × (Nat → Int32) × (Nat → Int32))) (m_sayable : Nat → Int32) (m_price : Nat → Int32) (m_covered : Nat → Int32) (m_spent : Nat → Int32) (x2 : Int32) (x4 : Int32) (x5 : Int32) : Option (Int32 × (Nat → Int32) × (Nat → Int32)) := (fX1_cheapest_b126 N r16 m_sayable m_price m_covered m_spent x2 x5 x4 x5)
def fX1_cheapest_b88 (N : Nat) (r16 : (Nat → Int32) → (Nat → Int32) → Int32 → Int32 → Option (Int32 × (Nat → Int32) × (Nat → Int32))) (m_sayable : Nat → Int32) (m_price : Nat → Int32) (m_covered : Nat → Int32) (m_spent : Nat → Int32) (x2 : Int32) (x3 : Int32) (x4 : Int32) (x5 : Int32) : Option (Int32 × (Nat → Int32) × (Nat → Int32)) := gm_chk x5 1024 ((if (x2 &&& ((m_covered (Int32.toNatClampNeg x5)) ^^^ (-1))) = 0 then (if x3 = (-1) then (fX1_cheapest_b123 N r16 m_sayable m_price m_covered m_spent x2 x4 x5) else gm_chk x5 1024 (gm_chk x3 1024 ((if (m_spent (Int32.toNatClampNeg x3)) ≤ (m_spent (Int32.toNatClampNeg x5)) then (fX1_cheapest_b126 N r16 m_sayable m_price m_covered m_spent x2 x3 x4 x5) else (fX1_cheapest_b123 N r16 m_sayable m_price m_covered m_spent x2 x4 x5))))) else (fX1_cheapest_b126 N r16 m_sayable m_price m_covered m_spent x2 x3 x4 x5)))
def fX1_cheapest_b16_body (N : Nat)  (m_sayable : Nat → Int32) (m_price : Nat → Int32) (x2 : Int32) (x4 : Int32) (r16 : (Nat → Int32) → (Nat → Int32) → Int32 → Int32 → Option (Int32 × (Nat → Int32) × (Nat → Int32))) (m_covered : Nat → Int32) (m_spent : Nat → Int32) (x3 : Int32) (x5 : Int32) : Option (Int32 × (Nat → Int32) × (Nat → Int32)) := (if x4 ≤ x5 then some (x3, m_covered, m_spent) else (if x5 ≤ 0 then (fX1_cheapest_b88 N r16 m_sayable m_price m_covered m_spent x2 x3 x4 x5) else gm_let ((x5 &&& (x5 - 1)) : Int32) (fun (v10 : Int32) => gm_bind (fJ6_numberOfTrailingZeros_0f7a4 N x5) (fun o11 => gm_chk v10 1024 (gm_chk o11 10 (gm_chk x5 1024 (gm_chk v10 1024 (gm_chk o11 10 (gm_chk x5 1024 ((fX1_cheapest_b88 N r16 m_sayable m_price (upd m_covered (Int32.toNatClampNeg x5) (((m_covered (Int32.toNatClampNeg v10)) ||| (m_sayable (Int32.toNatClampNeg o11))))) (upd m_spent (Int32.toNatClampNeg x5) (((m_spent (Int32.toNatClampNeg v10)) + (m_price (Int32.toNatClampNeg o11))))) x2 x3 x4 x5)))))))))))
def fX1_cheapest_b16 (N : Nat)  (m_sayable : Nat → Int32) (m_price : Nat → Int32) (x2 : Int32) (x4 : Int32) (m_covered : Nat → Int32) (m_spent : Nat → Int32) (x3 : Int32) (x5 : Int32) : Option (Int32 × (Nat → Int32) × (Nat → Int32)) := gm_fix (fX1_cheapest_b16_body N  m_sayable m_price x2 x4) (fun _ _ _ _ => none) N m_covered m_spent x3 x5
def fX1_cheapest (N : Nat) (m_sayable : Nat → Int32) (m_price : Nat → Int32) (m_covered : Nat → Int32) (m_spent : Nat → Int32) (x1 : Int32) (x2 : Int32) : Option (Int32 × (Nat → Int32) × (Nat → Int32)) := gm_let ((if 1024 < ((1 : Int32) <<< (x1 &&& 31)) then 1024 else ((1 : Int32) <<< (x1 &&& 31))) : Int32) (fun (v1 : Int32) => (fX1_cheapest_b16 N  m_sayable m_price x2 v1 m_covered m_spent ((-1)) 0))
set_option maxRecDepth 20000 in
theorem inX1_cheapest_X1 : ∀ w ∈ u_ws RX1 TX1 4, w ∈ wsX1_cheapest := fun w h => by
  obtain ⟨k, hk, rfl⟩ := List.mem_map.mp h
  have hk2 := List.mem_range.mp hk
  exact List.mem_of_getElem? (i := 14 + k) (by rcases (show k = 0 ∨ k = 1 ∨ k = 2 ∨ k = 3 by omega) with rfl | rfl | rfl | rfl <;> rfl)
set_option maxRecDepth 100000 in
set_option maxHeartbeats 4000000 in
theorem tX1_cheapest_b126 {p : Program} {l : Launch} {e : Env} {s : State} {m : MethodId} {args : Array Value} {below : List Frame} {meth : Method} {c : Code} {A : Nat → Prop} {dC : Nat → ClassId} {dI : Nat → Nat → Nat} {cI : ClassId} {q q_sayable q_price q_covered q_spent : Nat} {m_sayable : Nat → Int32} {m_price : Nat → Int32} {m_covered : Nat → Int32} {m_spent : Nat → Int32} {x2 : Int32} {x3 : Int32} {x4 : Int32} {x5 : Int32} (C0 : gm_C p s m args meth c (dC, dI) [(cI, .int)] A gm_T RX1 cX1_cheapest 8 (some .int) wsX1_cheapest) {N : Nat} {out : Int32 × (Nat → Int32) × (Nat → Int32)} {r16 : (Nat → Int32) → (Nat → Int32) → Int32 → Int32 → Option (Int32 × (Nat → Int32) × (Nat → Int32))} (hr16 : ∀ (m_covered : Nat → Int32) (m_spent : Nat → Int32) (x3 : Int32) (x5 : Int32) (H : Heap) (locs : List Loc) (ls : Array Slot), r16 m_covered m_spent x3 x5 = some out → gm_H (dC, dI) A s (wX1_cheapest cI q q_sayable q_price q_covered q_spent m_sayable m_price m_covered m_spent) H locs → lv_has ls 8 [(0, .ref q), (2, .int x2), (3, .int x3), (4, .int x4), (5, .int x5)] → W p l e rX1_cheapest s m args below meth c H locs 0 0 (MQ below (gm_Q (dC, dI) [(cI, .int)] A (some (.int out.1)) (wX1_cheapest cI q q_sayable q_price q_covered q_spent m_sayable m_price out.2.1 out.2.2)) args s 0 0 A) (F0 m 16 ls []))   {H : Heap} {locs : List Loc} {ls : Array Slot} (h : fX1_cheapest_b126 N r16 m_sayable m_price m_covered m_spent x2 x3 x4 x5 = some out) (hH : gm_H (dC, dI) A s (wX1_cheapest cI q q_sayable q_price q_covered q_spent m_sayable m_price m_covered m_spent) H locs) (hl : lv_has ls 8 [(0, .ref q), (2, .int x2), (3, .int x3), (4, .int x4), (5, .int x5)]) : W p l e rX1_cheapest s m args below meth c H locs 0 0 (MQ below (gm_Q (dC, dI) [(cI, .int)] A (some (.int out.1)) (wX1_cheapest cI q q_sayable q_price q_covered q_spent m_sayable m_price out.2.1 out.2.2)) args s 0 0 A) (F0 m 126 ls []) := by
  obtain ⟨hx, hb, hml, hr, hown, hts, hA, hK, hX, hlocks⟩ := id C0
  unfold fX1_cheapest_b126 at h
  refine lv_iinc (v := (x5 + 1)) (lv' := [(5, .int (x5 + 1)), (0, .ref q), (2, .int x2), (3, .int x3), (4, .int x4)]) hx hb dX1_cheapest_126 hl (k := 4) rfl rfl (by decide) rfl (fun ls hl => ?_)
  refine lv_goto (tgt := 16) hx hb dX1_cheapest_129 (by decide) ?_
  exact hr16 _ _ _ _ _ _ _ h hH (lv_sub hl [1, 2, 3, 4, 0] rfl)
set_option maxRecDepth 100000 in
set_option maxHeartbeats 4000000 in
theorem tX1_cheapest_b123 {p : Program} {l : Launch} {e : Env} {s : State} {m : MethodId} {args : Array Value} {below : List Frame} {meth : Method} {c : Code} {A : Nat → Prop} {dC : Nat → ClassId} {dI : Nat → Nat → Nat} {cI : ClassId} {q q_sayable q_price q_covered q_spent : Nat} {m_sayable : Nat → Int32} {m_price : Nat → Int32} {m_covered : Nat → Int32} {m_spent : Nat → Int32} {x2 : Int32} {x4 : Int32} {x5 : Int32} (C0 : gm_C p s m args meth c (dC, dI) [(cI, .int)] A gm_T RX1 cX1_cheapest 8 (some .int) wsX1_cheapest) {N : Nat} {out : Int32 × (Nat → Int32) × (Nat → Int32)} {r16 : (Nat → Int32) → (Nat → Int32) → Int32 → Int32 → Option (Int32 × (Nat → Int32) × (Nat → Int32))} (hr16 : ∀ (m_covered : Nat → Int32) (m_spent : Nat → Int32) (x3 : Int32) (x5 : Int32) (H : Heap) (locs : List Loc) (ls : Array Slot), r16 m_covered m_spent x3 x5 = some out → gm_H (dC, dI) A s (wX1_cheapest cI q q_sayable q_price q_covered q_spent m_sayable m_price m_covered m_spent) H locs → lv_has ls 8 [(0, .ref q), (2, .int x2), (3, .int x3), (4, .int x4), (5, .int x5)] → W p l e rX1_cheapest s m args below meth c H locs 0 0 (MQ below (gm_Q (dC, dI) [(cI, .int)] A (some (.int out.1)) (wX1_cheapest cI q q_sayable q_price q_covered q_spent m_sayable m_price out.2.1 out.2.2)) args s 0 0 A) (F0 m 16 ls []))   {H : Heap} {locs : List Loc} {ls : Array Slot} (h : fX1_cheapest_b123 N r16 m_sayable m_price m_covered m_spent x2 x4 x5 = some out) (hH : gm_H (dC, dI) A s (wX1_cheapest cI q q_sayable q_price q_covered q_spent m_sayable m_price m_covered m_spent) H locs) (hl : lv_has ls 8 [(0, .ref q), (2, .int x2), (4, .int x4), (5, .int x5)]) : W p l e rX1_cheapest s m args below meth c H locs 0 0 (MQ below (gm_Q (dC, dI) [(cI, .int)] A (some (.int out.1)) (wX1_cheapest cI q q_sayable q_price q_covered q_spent m_sayable m_price out.2.1 out.2.2)) args s 0 0 A) (F0 m 123 ls []) := by
  obtain ⟨hx, hb, hml, hr, hown, hts, hA, hK, hX, hlocks⟩ := id C0
  unfold fX1_cheapest_b123 at h
  refine lv_iload hx hb dX1_cheapest_123 (lv_at hl 3 rfl) ?_
  refine lv_istore_n (lv' := [(3, .int x5), (0, .ref q), (2, .int x2), (4, .int x4), (5, .int x5)]) hx hb dX1_cheapest_125 rfl hl (by decide) rfl (fun ls hl => ?_)
  exact tX1_cheapest_b126 C0 hr16 h hH (lv_sub hl [1, 2, 0, 3, 4] rfl)
set_option maxRecDepth 100000 in
set_option maxHeartbeats 4000000 in
theorem tX1_cheapest_b88 {p : Program} {l : Launch} {e : Env} {s : State} {m : MethodId} {args : Array Value} {below : List Frame} {meth : Method} {c : Code} {A : Nat → Prop} {dC : Nat → ClassId} {dI : Nat → Nat → Nat} {cI : ClassId} {q q_sayable q_price q_covered q_spent : Nat} {m_sayable : Nat → Int32} {m_price : Nat → Int32} {m_covered : Nat → Int32} {m_spent : Nat → Int32} {x2 : Int32} {x3 : Int32} {x4 : Int32} {x5 : Int32} (C0 : gm_C p s m args meth c (dC, dI) [(cI, .int)] A gm_T RX1 cX1_cheapest 8 (some .int) wsX1_cheapest) {N : Nat} {out : Int32 × (Nat → Int32) × (Nat → Int32)} {r16 : (Nat → Int32) → (Nat → Int32) → Int32 → Int32 → Option (Int32 × (Nat → Int32) × (Nat → Int32))} (hr16 : ∀ (m_covered : Nat → Int32) (m_spent : Nat → Int32) (x3 : Int32) (x5 : Int32) (H : Heap) (locs : List Loc) (ls : Array Slot), r16 m_covered m_spent x3 x5 = some out → gm_H (dC, dI) A s (wX1_cheapest cI q q_sayable q_price q_covered q_spent m_sayable m_price m_covered m_spent) H locs → lv_has ls 8 [(0, .ref q), (2, .int x2), (3, .int x3), (4, .int x4), (5, .int x5)] → W p l e rX1_cheapest s m args below meth c H locs 0 0 (MQ below (gm_Q (dC, dI) [(cI, .int)] A (some (.int out.1)) (wX1_cheapest cI q q_sayable q_price q_covered q_spent m_sayable m_price out.2.1 out.2.2)) args s 0 0 A) (F0 m 16 ls []))   {H : Heap} {locs : List Loc} {ls : Array Slot} (h : fX1_cheapest_b88 N r16 m_sayable m_price m_covered m_spent x2 x3 x4 x5 = some out) (hH : gm_H (dC, dI) A s (wX1_cheapest cI q q_sayable q_price q_covered q_spent m_sayable m_price m_covered m_spent) H locs) (hl : lv_has ls 8 [(0, .ref q), (2, .int x2), (3, .int x3), (4, .int x4), (5, .int x5)]) : W p l e rX1_cheapest s m args below meth c H locs 0 0 (MQ below (gm_Q (dC, dI) [(cI, .int)] A (some (.int out.1)) (wX1_cheapest cI q q_sayable q_price q_covered q_spent m_sayable m_price out.2.1 out.2.2)) args s 0 0 A) (F0 m 88 ls []) := by
  obtain ⟨hx, hb, hml, hr, hown, hts, hA, hK, hX, hlocks⟩ := id C0
  unfold fX1_cheapest_b88 at h
  refine lv_iload_n hx hb dX1_cheapest_88 rfl (lv_at hl 1 rfl) ?_
  refine lv_aload_n hx hb dX1_cheapest_89 rfl (lv_at hl 0 rfl) ?_
  refine gm_get (ci := 1) C0 hH inX1_cheapest_X1 0 2 5 rfl rfl (by decide) rfl rfl dX1_cheapest_90 ?_
  refine lv_iload hx hb dX1_cheapest_93 (lv_at hl 4 rfl) ?_
  obtain ⟨hi4, h⟩ := gm_chk_e h
  refine gm_iald C0 hH hi4 3 0 rfl rfl dX1_cheapest_95 ?_
  refine lv_iconst (v := (-1)) hx hb dX1_cheapest_96 (by decide) ?_
  refine lv_ixor hx hb dX1_cheapest_97 ?_
  refine lv_iand hx hb dX1_cheapest_98 ?_
  refine lv_if_ne (tgt := 126) hx hb dX1_cheapest_99 (by decide) (fun hc5 => ?_) (fun hc5 => ?_)
  · replace h := gm_neg hc5 h
    exact tX1_cheapest_b126 C0 hr16 h hH (lv_sub hl [0, 1, 2, 3, 4] rfl)
  · replace h := gm_pos hc5 h
    refine lv_iload_n hx hb dX1_cheapest_102 rfl (lv_at hl 2 rfl) ?_
    refine lv_iconst (v := (-1)) hx hb dX1_cheapest_103 (by decide) ?_
    refine lv_icmp_eq (tgt := 123) hx hb dX1_cheapest_104 (by decide) (fun hc6 => ?_) (fun hc6 => ?_)
    · replace h := gm_pos hc6 h
      exact tX1_cheapest_b123 C0 hr16 h hH (lv_sub hl [0, 1, 3, 4] rfl)
    · replace h := gm_neg hc6 h
      refine lv_aload_n hx hb dX1_cheapest_107 rfl (lv_at hl 0 rfl) ?_
      refine gm_get (ci := 1) C0 hH inX1_cheapest_X1 0 3 7 rfl rfl (by decide) rfl rfl dX1_cheapest_108 ?_
      refine lv_iload hx hb dX1_cheapest_111 (lv_at hl 4 rfl) ?_
      obtain ⟨hi7, h⟩ := gm_chk_e h
      refine gm_iald C0 hH hi7 4 0 rfl rfl dX1_cheapest_113 ?_
      refine lv_aload_n hx hb dX1_cheapest_114 rfl (lv_at hl 0 rfl) ?_
      refine gm_get (ci := 1) C0 hH inX1_cheapest_X1 0 3 7 rfl rfl (by decide) rfl rfl dX1_cheapest_115 ?_
      refine lv_iload_n hx hb dX1_cheapest_118 rfl (lv_at hl 2 rfl) ?_
      obtain ⟨hi8, h⟩ := gm_chk_e h
      refine gm_iald C0 hH hi8 4 0 rfl rfl dX1_cheapest_119 ?_
      refine lv_icmp_ge (tgt := 126) hx hb dX1_cheapest_120 (by decide) (fun hc9 => ?_) (fun hc9 => ?_)
      · replace h := gm_pos hc9 h
        exact tX1_cheapest_b126 C0 hr16 h hH (lv_sub hl [0, 1, 2, 3, 4] rfl)
      · replace h := gm_neg hc9 h
        exact tX1_cheapest_b123 C0 hr16 h hH (lv_sub hl [0, 1, 3, 4] rfl)
set_option maxRecDepth 100000 in
set_option maxHeartbeats 4000000 in
theorem tX1_cheapest_b16 {p : Program} {l : Launch} {e : Env} {s : State} {m : MethodId} {args : Array Value} {below : List Frame} {meth : Method} {c : Code} {A : Nat → Prop} {dC : Nat → ClassId} {dI : Nat → Nat → Nat} {cI : ClassId} {q q_sayable q_price q_covered q_spent : Nat} {m_sayable : Nat → Int32} {m_price : Nat → Int32} {x2 : Int32} {x4 : Int32} (C0 : gm_C p s m args meth c (dC, dI) [(cI, .int)] A gm_T RX1 cX1_cheapest 8 (some .int) wsX1_cheapest) {N : Nat} {out : Int32 × (Nat → Int32) × (Nat → Int32)}   : ∀ (n : Nat), ∀ (m_covered : Nat → Int32) (m_spent : Nat → Int32) (x3 : Int32) (x5 : Int32) (H : Heap) (locs : List Loc) (ls : Array Slot), (gm_fix (fX1_cheapest_b16_body N  m_sayable m_price x2 x4) (fun _ _ _ _ => none) n) m_covered m_spent x3 x5 = some out → gm_H (dC, dI) A s (wX1_cheapest cI q q_sayable q_price q_covered q_spent m_sayable m_price m_covered m_spent) H locs → lv_has ls 8 [(0, .ref q), (2, .int x2), (3, .int x3), (4, .int x4), (5, .int x5)] → W p l e rX1_cheapest s m args below meth c H locs 0 0 (MQ below (gm_Q (dC, dI) [(cI, .int)] A (some (.int out.1)) (wX1_cheapest cI q q_sayable q_price q_covered q_spent m_sayable m_price out.2.1 out.2.2)) args s 0 0 A) (F0 m 16 ls []) := by
  obtain ⟨hx, hb, hml, hr, hown, hts, hA, hK, hX, hlocks⟩ := id C0
  intro n
  induction n with
  | zero =>
    intro m_covered m_spent x3 x5 H locs ls h hH hl
    cases h
  | succ n hr16 =>
    intro m_covered m_spent x3 x5 H locs ls h hH hl
    rw [gm_fix_s] at h
    unfold fX1_cheapest_b16_body at h
    refine lv_iload hx hb dX1_cheapest_16 (lv_at hl 4 rfl) ?_
    refine lv_iload hx hb dX1_cheapest_18 (lv_at hl 3 rfl) ?_
    refine lv_icmp_ge (tgt := 132) hx hb dX1_cheapest_20 (by decide) (fun hc2 => ?_) (fun hc2 => ?_)
    · replace h := gm_pos hc2 h
      refine lv_iload_n hx hb dX1_cheapest_132 rfl (lv_at hl 2 rfl) ?_
      obtain rfl := Option.some.inj h
      exact gm_iret C0 hH dX1_cheapest_133
    · replace h := gm_neg hc2 h
      refine lv_iload hx hb dX1_cheapest_23 (lv_at hl 4 rfl) ?_
      refine lv_if_le (tgt := 88) hx hb dX1_cheapest_25 (by decide) (fun hc3 => ?_) (fun hc3 => ?_)
      · replace h := gm_pos hc3 h
        exact tX1_cheapest_b88 C0 hr16 h hH (lv_sub hl [0, 1, 2, 3, 4] rfl)
      · replace h := gm_neg hc3 h
        refine lv_iload hx hb dX1_cheapest_28 (lv_at hl 4 rfl) ?_
        refine lv_iload hx hb dX1_cheapest_30 (lv_at hl 4 rfl) ?_
        refine lv_iconst (v := 1) hx hb dX1_cheapest_32 (by decide) ?_
        refine lv_isub hx hb dX1_cheapest_33 ?_
        refine lv_iand hx hb dX1_cheapest_34 ?_
        refine lv_topi (fun v10 ev10 => ?_)
        replace h := gm_let_e ev10 h
        refine lv_istore (lv' := [(6, .int v10), (0, .ref q), (2, .int x2), (3, .int x3), (4, .int x4), (5, .int x5)]) hx hb dX1_cheapest_35 hl (by decide) rfl (fun ls hl => ?_)
        refine lv_iload hx hb dX1_cheapest_37 (lv_at hl 5 rfl) ?_
        obtain ⟨o11, ho11, h⟩ := gm_bind_e h
        refine gm_callS (As := [.int x5]) (rest := []) (n := 1) C0 hH (mJ6_numberOfTrailingZeros_0f7a4 l dC dI    x5   ho11) gX1_cheapest_J6_numberOfTrailingZeros_0f7a4 rfl (by decide +kernel) ⟨rfl, rfl, Nat.le_of_ble_eq_true rfl, Nat.le_of_ble_eq_true rfl⟩ gm_T_ok (fun _ => trivial) [] rfl rfl rfl [] rfl rfl hl.1 rfl (Nat.le_of_ble_eq_true rfl) dX1_cheapest_39 ⟨Nat.zero_le _, Nat.zero_le _⟩ (fun H locs hH => ?_)
        have hH : gm_H (dC, dI) A s (wX1_cheapest cI q q_sayable q_price q_covered q_spent m_sayable m_price m_covered m_spent) H locs := hH
        refine lv_istore (lv' := [(7, .int o11), (6, .int v10), (0, .ref q), (2, .int x2), (3, .int x3), (4, .int x4), (5, .int x5)]) hx hb dX1_cheapest_42 hl (by decide) rfl (fun ls hl => ?_)
        refine lv_aload_n hx hb dX1_cheapest_44 rfl (lv_at hl 2 rfl) ?_
        refine gm_get (ci := 1) C0 hH inX1_cheapest_X1 0 2 5 rfl rfl (by decide) rfl rfl dX1_cheapest_45 ?_
        refine lv_iload hx hb dX1_cheapest_48 (lv_at hl 6 rfl) ?_
        refine lv_aload_n hx hb dX1_cheapest_50 rfl (lv_at hl 2 rfl) ?_
        refine gm_get (ci := 1) C0 hH inX1_cheapest_X1 0 2 5 rfl rfl (by decide) rfl rfl dX1_cheapest_51 ?_
        refine lv_iload hx hb dX1_cheapest_54 (lv_at hl 1 rfl) ?_
        obtain ⟨hi12, h⟩ := gm_chk_e h
        refine gm_iald C0 hH hi12 3 0 rfl rfl dX1_cheapest_56 ?_
        refine lv_aload_n hx hb dX1_cheapest_57 rfl (lv_at hl 2 rfl) ?_
        refine gm_get (ci := 1) C0 hH inX1_cheapest_X1 0 0 6 rfl rfl (by decide) rfl rfl dX1_cheapest_58 ?_
        refine lv_iload hx hb dX1_cheapest_61 (lv_at hl 0 rfl) ?_
        obtain ⟨hi13, h⟩ := gm_chk_e h
        refine gm_iald C0 hH hi13 1 0 rfl rfl dX1_cheapest_63 ?_
        refine lv_ior hx hb dX1_cheapest_64 ?_
        obtain ⟨hi14, h⟩ := gm_chk_e h
        refine gm_iast C0 hH hi14 3 0 rfl rfl dX1_cheapest_65 (fun H locs hH => ?_)
        have hH : gm_H (dC, dI) A s (wX1_cheapest cI q q_sayable q_price q_covered q_spent m_sayable m_price (upd m_covered (Int32.toNatClampNeg x5) (((m_covered (Int32.toNatClampNeg v10)) ||| (m_sayable (Int32.toNatClampNeg o11))))) m_spent) H locs := hH
        refine lv_aload_n hx hb dX1_cheapest_66 rfl (lv_at hl 2 rfl) ?_
        refine gm_get (ci := 1) C0 hH inX1_cheapest_X1 0 3 7 rfl rfl (by decide) rfl rfl dX1_cheapest_67 ?_
        refine lv_iload hx hb dX1_cheapest_70 (lv_at hl 6 rfl) ?_
        refine lv_aload_n hx hb dX1_cheapest_72 rfl (lv_at hl 2 rfl) ?_
        refine gm_get (ci := 1) C0 hH inX1_cheapest_X1 0 3 7 rfl rfl (by decide) rfl rfl dX1_cheapest_73 ?_
        refine lv_iload hx hb dX1_cheapest_76 (lv_at hl 1 rfl) ?_
        obtain ⟨hi15, h⟩ := gm_chk_e h
        refine gm_iald C0 hH hi15 4 0 rfl rfl dX1_cheapest_78 ?_
        refine lv_aload_n hx hb dX1_cheapest_79 rfl (lv_at hl 2 rfl) ?_
        refine gm_get (ci := 1) C0 hH inX1_cheapest_X1 0 1 8 rfl rfl (by decide) rfl rfl dX1_cheapest_80 ?_
        refine lv_iload hx hb dX1_cheapest_83 (lv_at hl 0 rfl) ?_
        obtain ⟨hi16, h⟩ := gm_chk_e h
        refine gm_iald C0 hH hi16 2 0 rfl rfl dX1_cheapest_85 ?_
        refine lv_iadd hx hb dX1_cheapest_86 ?_
        obtain ⟨hi17, h⟩ := gm_chk_e h
        refine gm_iast C0 hH hi17 4 0 rfl rfl dX1_cheapest_87 (fun H locs hH => ?_)
        have hH : gm_H (dC, dI) A s (wX1_cheapest cI q q_sayable q_price q_covered q_spent m_sayable m_price (upd m_covered (Int32.toNatClampNeg x5) (((m_covered (Int32.toNatClampNeg v10)) ||| (m_sayable (Int32.toNatClampNeg o11))))) (upd m_spent (Int32.toNatClampNeg x5) (((m_spent (Int32.toNatClampNeg v10)) + (m_price (Int32.toNatClampNeg o11)))))) H locs := hH
        exact tX1_cheapest_b88 C0 hr16 h hH (lv_sub hl [2, 3, 4, 5, 6] rfl)
set_option maxRecDepth 100000 in
set_option maxHeartbeats 4000000 in
theorem mX1_cheapest (l : Launch) (dC : Nat → ClassId) (dI : Nat → Nat → Nat) (cI : ClassId) (q q_sayable q_price q_covered q_spent : Nat) (m_sayable : Nat → Int32) (m_price : Nat → Int32) (m_covered : Nat → Int32) (m_spent : Nat → Int32) (x1 : Int32) (x2 : Int32)  {N : Nat} {out : Int32 × (Nat → Int32) × (Nat → Int32)} (h : fX1_cheapest N m_sayable m_price m_covered m_spent x1 x2 = some out) : gm_Met l yX1_cheapest wsX1_cheapest rX1_cheapest (dC, dI) [(cI, .int)] gm_T [.ref q, .int x1, .int x2] (wX1_cheapest cI q q_sayable q_price q_covered q_spent m_sayable m_price m_covered m_spent) (some (.int out.1)) (wX1_cheapest cI q q_sayable q_price q_covered q_spent m_sayable m_price out.2.1 out.2.2) := by
  refine gm_ofW (cc := cX1_cheapest) (maxL := 8) (ret := (some .int)) (by decide +kernel) rfl (Nat.le_of_ble_eq_true rfl) ?_
  intro p e s m below meth c A C0 hH ls hl
  generalize ([.ref q, .int x1, .int x2] : List Value).toArray = args at C0 ⊢
  have hl : lv_has ls 8 [(0, .ref q), (1, .int x1), (2, .int x2)] := hl
  generalize s.heap = H at hH ⊢
  generalize ([] : List Loc) = locs at hH ⊢
  obtain ⟨hx, hb, hml, hr, hown, hts, hA, hK, hX, hlocks⟩ := id C0
  unfold fX1_cheapest at h
  refine lv_iconst (v := (-1)) hx hb dX1_cheapest_0 (by decide) ?_
  refine lv_istore_n (lv' := [(3, .int (-1)), (0, .ref q), (1, .int x1), (2, .int x2)]) hx hb dX1_cheapest_1 rfl hl (by decide) rfl (fun ls hl => ?_)
  refine lv_iconst (v := 1) hx hb dX1_cheapest_2 (by decide) ?_
  refine lv_iload_n hx hb dX1_cheapest_3 rfl (lv_at hl 2 rfl) ?_
  refine lv_ishl hx hb dX1_cheapest_4 ?_
  refine lv_sipush (v := 1024) hx hb dX1_cheapest_5 (by decide) ?_
  refine va_mmin hx hb (by rw [hml]; exact hl.1.symm) hown (gm_at C0 1 rfl) (gm_at C0 2 rfl) (gm_at C0 3 rfl) (gm_at C0 4 rfl) (by decide) (Nat.le_of_ble_eq_true rfl) (by decide) (by decide) dX1_cheapest_8 ?_
  refine lv_topi (fun v1 ev1 => ?_)
  replace h := gm_let_e ev1 h
  refine lv_istore (lv' := [(4, .int v1), (3, .int (-1)), (0, .ref q), (1, .int x1), (2, .int x2)]) hx hb dX1_cheapest_11 hl (by decide) rfl (fun ls hl => ?_)
  refine lv_iconst (v := 0) hx hb dX1_cheapest_13 (by decide) ?_
  refine lv_istore (lv' := [(5, .int 0), (4, .int v1), (3, .int (-1)), (0, .ref q), (1, .int x1), (2, .int x2)]) hx hb dX1_cheapest_14 hl (by decide) rfl (fun ls hl => ?_)
  unfold fX1_cheapest_b16 at h
  exact tX1_cheapest_b16 C0  _ _ _ _ _ _ _ _ h hH (lv_sub hl [3, 5, 2, 1, 0] rfl)

/-! X2_begin -/
abbrev wX2_begin (q q_chimesOfFirst q_chimesOfSecond q_lasts : Nat) (m_words : Int32) (m_saidAtFirst : Int32) (m_asked : Int32) (m_longest : Int32) (m_shortest : Int32) : va_W := [(q, .inr (2, [.ref q_chimesOfFirst, .ref q_chimesOfSecond, .ref q_lasts, .int m_words, .int m_saidAtFirst, .int m_asked, .int m_longest, .int m_shortest]))]
abbrev rX2_begin : Room := { frames := 1, cells := 0, slots := 0, locals := 21 }
def fX2_begin (N : Nat) (m_words : Int32) (m_saidAtFirst : Int32) (m_asked : Int32) (x1 : Int32) (x2 : Int32) (x3 : Int32) : Option (Int32 × Int32 × Int32) := gm_let ((if 10 < x1 then 10 else x1) : Int32) (fun (v1 : Int32) => gm_let ((x2 &&& 1023) : Int32) (fun (v2 : Int32) => some (v1, v2, x3)))
set_option maxRecDepth 20000 in
theorem inX2_begin_X2 : ∀ w ∈ u_ws RX2 TX2 8, w ∈ wsX2_begin := fun w h => by
  obtain ⟨k, hk, rfl⟩ := List.mem_map.mp h
  have hk2 := List.mem_range.mp hk
  exact List.mem_of_getElem? (i := 8 + k) (by rcases (show k = 0 ∨ k = 1 ∨ k = 2 ∨ k = 3 ∨ k = 4 ∨ k = 5 ∨ k = 6 ∨ k = 7 by omega) with rfl | rfl | rfl | rfl | rfl | rfl | rfl | rfl <;> rfl)
set_option maxRecDepth 100000 in
set_option maxHeartbeats 4000000 in
theorem mX2_begin (l : Launch) (dC : Nat → ClassId) (dI : Nat → Nat → Nat) (q q_chimesOfFirst q_chimesOfSecond q_lasts : Nat) (m_words : Int32) (m_saidAtFirst : Int32) (m_asked : Int32) (m_longest : Int32) (m_shortest : Int32) (x1 : Int32) (x2 : Int32) (x3 : Int32)  {N : Nat} {out : Int32 × Int32 × Int32} (h : fX2_begin N m_words m_saidAtFirst m_asked x1 x2 x3 = some out) : gm_Met l yX2_begin wsX2_begin rX2_begin (dC, dI) [] gm_T [.ref q, .int x1, .int x2, .int x3] (wX2_begin  q q_chimesOfFirst q_chimesOfSecond q_lasts m_words m_saidAtFirst m_asked m_longest m_shortest) none (wX2_begin  q q_chimesOfFirst q_chimesOfSecond q_lasts out.1 out.2.1 out.2.2 m_longest m_shortest) := by
  refine gm_ofW (cc := cX2_begin) (maxL := 4) (ret := none) (by decide +kernel) rfl (Nat.le_of_ble_eq_true rfl) ?_
  intro p e s m below meth c A C0 hH ls hl
  generalize ([.ref q, .int x1, .int x2, .int x3] : List Value).toArray = args at C0 ⊢
  have hl : lv_has ls 4 [(0, .ref q), (1, .int x1), (2, .int x2), (3, .int x3)] := hl
  generalize s.heap = H at hH ⊢
  generalize ([] : List Loc) = locs at hH ⊢
  obtain ⟨hx, hb, hml, hr, hown, hts, hA, hK, hX, hlocks⟩ := id C0
  unfold fX2_begin at h
  refine lv_aload_n hx hb dX2_begin_0 rfl (lv_at hl 0 rfl) ?_
  refine lv_iload_n hx hb dX2_begin_1 rfl (lv_at hl 1 rfl) ?_
  refine lv_bipush (v := 10) hx hb dX2_begin_2 (by decide) ?_
  refine va_mmin hx hb (by rw [hml]; exact hl.1.symm) hown (gm_at C0 1 rfl) (gm_at C0 2 rfl) (gm_at C0 3 rfl) (gm_at C0 4 rfl) (by decide) (Nat.le_of_ble_eq_true rfl) (by decide) (by decide) dX2_begin_4 ?_
  refine lv_topi (fun v1 ev1 => ?_)
  replace h := gm_let_e ev1 h
  refine gm_putf (ci := 2) C0 hH inX2_begin_X2 tyX2_ok nmX2 0 3 5 rfl rfl (by decide) rfl rfl rfl rfl rfl (Nat.le_of_ble_eq_true rfl) dX2_begin_7 (fun H locs hH => ?_)
  have hH : gm_H (dC, dI) A s (wX2_begin  q q_chimesOfFirst q_chimesOfSecond q_lasts v1 m_saidAtFirst m_asked m_longest m_shortest) H locs := hH
  refine lv_aload_n hx hb dX2_begin_10 rfl (lv_at hl 0 rfl) ?_
  refine lv_iload_n hx hb dX2_begin_11 rfl (lv_at hl 2 rfl) ?_
  refine lv_sipush (v := 1023) hx hb dX2_begin_12 (by decide) ?_
  refine lv_iand hx hb dX2_begin_15 ?_
  refine lv_topi (fun v2 ev2 => ?_)
  replace h := gm_let_e ev2 h
  refine gm_putf (ci := 2) C0 hH inX2_begin_X2 tyX2_ok nmX2 0 4 6 rfl rfl (by decide) rfl rfl rfl rfl rfl (Nat.le_of_ble_eq_true rfl) dX2_begin_16 (fun H locs hH => ?_)
  have hH : gm_H (dC, dI) A s (wX2_begin  q q_chimesOfFirst q_chimesOfSecond q_lasts v1 v2 m_asked m_longest m_shortest) H locs := hH
  refine lv_aload_n hx hb dX2_begin_19 rfl (lv_at hl 0 rfl) ?_
  refine lv_iload_n hx hb dX2_begin_20 rfl (lv_at hl 3 rfl) ?_
  refine gm_putf (ci := 2) C0 hH inX2_begin_X2 tyX2_ok nmX2 0 5 7 rfl rfl (by decide) rfl rfl rfl rfl rfl (Nat.le_of_ble_eq_true rfl) dX2_begin_21 (fun H locs hH => ?_)
  have hH : gm_H (dC, dI) A s (wX2_begin  q q_chimesOfFirst q_chimesOfSecond q_lasts v1 v2 x3 m_longest m_shortest) H locs := hH
  obtain rfl := Option.some.inj h
  exact gm_vret C0 hH dX2_begin_24

/-! X2_answered -/
abbrev wX2_answered (q q_chimesOfFirst q_chimesOfSecond q_lasts : Nat) (m_words : Int32) (m_saidAtFirst : Int32) (m_asked : Int32) (m_longest : Int32) (m_shortest : Int32) : va_W := [(q, .inr (2, [.ref q_chimesOfFirst, .ref q_chimesOfSecond, .ref q_lasts, .int m_words, .int m_saidAtFirst, .int m_asked, .int m_longest, .int m_shortest]))]
abbrev rX2_answered : Room := { frames := 1, cells := 0, slots := 0, locals := 20 }
def fX2_answered (N : Nat) (m_saidAtFirst : Int32) (x1 : Int32) : Option (Int32) := gm_bind (fJ6_bitCount_0f7a4 N x1) (fun o1 => gm_bind (fJ6_bitCount_0f7a4 N m_saidAtFirst) (fun o2 => some ((o1 - o2))))
set_option maxRecDepth 20000 in
theorem inX2_answered_X2 : ∀ w ∈ u_ws RX2 TX2 8, w ∈ wsX2_answered := fun w h => by
  obtain ⟨k, hk, rfl⟩ := List.mem_map.mp h
  have hk2 := List.mem_range.mp hk
  exact List.mem_of_getElem? (i := 9 + k) (by rcases (show k = 0 ∨ k = 1 ∨ k = 2 ∨ k = 3 ∨ k = 4 ∨ k = 5 ∨ k = 6 ∨ k = 7 by omega) with rfl | rfl | rfl | rfl | rfl | rfl | rfl | rfl <;> rfl)
set_option maxRecDepth 100000 in
set_option maxHeartbeats 4000000 in
theorem mX2_answered (l : Launch) (dC : Nat → ClassId) (dI : Nat → Nat → Nat) (q q_chimesOfFirst q_chimesOfSecond q_lasts : Nat) (m_words : Int32) (m_saidAtFirst : Int32) (m_asked : Int32) (m_longest : Int32) (m_shortest : Int32) (x1 : Int32)  {N : Nat} {out : Int32} (h : fX2_answered N m_saidAtFirst x1 = some out) : gm_Met l yX2_answered wsX2_answered rX2_answered (dC, dI) [] gm_T [.ref q, .int x1] (wX2_answered  q q_chimesOfFirst q_chimesOfSecond q_lasts m_words m_saidAtFirst m_asked m_longest m_shortest) (some (.int out)) (wX2_answered  q q_chimesOfFirst q_chimesOfSecond q_lasts m_words m_saidAtFirst m_asked m_longest m_shortest) := by
  refine gm_ofW (cc := cX2_answered) (maxL := 2) (ret := (some .int)) (by decide +kernel) rfl (Nat.le_of_ble_eq_true rfl) ?_
  intro p e s m below meth c A C0 hH ls hl
  generalize ([.ref q, .int x1] : List Value).toArray = args at C0 ⊢
  have hl : lv_has ls 2 [(0, .ref q), (1, .int x1)] := hl
  generalize s.heap = H at hH ⊢
  generalize ([] : List Loc) = locs at hH ⊢
  obtain ⟨hx, hb, hml, hr, hown, hts, hA, hK, hX, hlocks⟩ := id C0
  unfold fX2_answered at h
  refine lv_iload_n hx hb dX2_answered_0 rfl (lv_at hl 1 rfl) ?_
  obtain ⟨o1, ho1, h⟩ := gm_bind_e h
  refine gm_callS (As := [.int x1]) (rest := []) (n := 1) C0 hH (mJ6_bitCount_0f7a4 l dC dI    x1   ho1) gX2_answered_J6_bitCount_0f7a4 rfl (by decide +kernel) ⟨rfl, rfl, Nat.le_of_ble_eq_true rfl, Nat.le_of_ble_eq_true rfl⟩ gm_T_ok (fun _ => trivial) [] rfl rfl rfl [] rfl rfl hl.1 rfl (Nat.le_of_ble_eq_true rfl) dX2_answered_1 ⟨Nat.zero_le _, Nat.zero_le _⟩ (fun H locs hH => ?_)
  have hH : gm_H (dC, dI) A s (wX2_answered  q q_chimesOfFirst q_chimesOfSecond q_lasts m_words m_saidAtFirst m_asked m_longest m_shortest) H locs := hH
  refine lv_aload_n hx hb dX2_answered_4 rfl (lv_at hl 0 rfl) ?_
  refine gm_get (ci := 2) C0 hH inX2_answered_X2 0 4 1 rfl rfl (by decide) rfl rfl dX2_answered_5 ?_
  obtain ⟨o2, ho2, h⟩ := gm_bind_e h
  refine gm_callS (As := [.int m_saidAtFirst]) (rest := [.int o1]) (n := 1) C0 hH (mJ6_bitCount_0f7a4 l dC dI    m_saidAtFirst   ho2) gX2_answered_J6_bitCount_0f7a4 rfl (by decide +kernel) ⟨rfl, rfl, Nat.le_of_ble_eq_true rfl, Nat.le_of_ble_eq_true rfl⟩ gm_T_ok (fun _ => trivial) [] rfl rfl rfl [] rfl rfl hl.1 rfl (Nat.le_of_ble_eq_true rfl) dX2_answered_8 ⟨Nat.zero_le _, Nat.zero_le _⟩ (fun H locs hH => ?_)
  have hH : gm_H (dC, dI) A s (wX2_answered  q q_chimesOfFirst q_chimesOfSecond q_lasts m_words m_saidAtFirst m_asked m_longest m_shortest) H locs := hH
  refine lv_isub hx hb dX2_answered_11 ?_
  obtain rfl := Option.some.inj h
  exact gm_iret C0 hH dX2_answered_12

/-! X2_chimesOfNext -/
abbrev wX2_chimesOfNext (q q_chimesOfFirst q_chimesOfSecond q_lasts : Nat) (m_words : Int32) (m_saidAtFirst : Int32) (m_asked : Int32) (m_longest : Int32) (m_shortest : Int32) : va_W := [(q, .inr (2, [.ref q_chimesOfFirst, .ref q_chimesOfSecond, .ref q_lasts, .int m_words, .int m_saidAtFirst, .int m_asked, .int m_longest, .int m_shortest]))]
abbrev rX2_chimesOfNext : Room := { frames := 2, cells := 0, slots := 0, locals := 41 }
def fX2_chimesOfNext (N : Nat) (m_saidAtFirst : Int32) (x1 : Int32) : Option (Int32) := gm_bind (fX2_answered N m_saidAtFirst x1) (fun o1 => gm_nz 2 ((if (o1 - o1 / 2 * 2) = 0 then some (0) else some (1))))
set_option maxRecDepth 20000 in
theorem inX2_chimesOfNext_X2 : ∀ w ∈ u_ws RX2 TX2 8, w ∈ wsX2_chimesOfNext := fun w h => by
  obtain ⟨k, hk, rfl⟩ := List.mem_map.mp h
  have hk2 := List.mem_range.mp hk
  exact List.mem_of_getElem? (i := 16 + k) (by rcases (show k = 0 ∨ k = 1 ∨ k = 2 ∨ k = 3 ∨ k = 4 ∨ k = 5 ∨ k = 6 ∨ k = 7 by omega) with rfl | rfl | rfl | rfl | rfl | rfl | rfl | rfl <;> rfl)
set_option maxRecDepth 100000 in
set_option maxHeartbeats 4000000 in
theorem mX2_chimesOfNext (l : Launch) (dC : Nat → ClassId) (dI : Nat → Nat → Nat) (q q_chimesOfFirst q_chimesOfSecond q_lasts : Nat) (m_words : Int32) (m_saidAtFirst : Int32) (m_asked : Int32) (m_longest : Int32) (m_shortest : Int32) (x1 : Int32)  {N : Nat} {out : Int32} (h : fX2_chimesOfNext N m_saidAtFirst x1 = some out) : gm_Met l yX2_chimesOfNext wsX2_chimesOfNext rX2_chimesOfNext (dC, dI) [] gm_T [.ref q, .int x1] (wX2_chimesOfNext  q q_chimesOfFirst q_chimesOfSecond q_lasts m_words m_saidAtFirst m_asked m_longest m_shortest) (some (.ref (if out = 0 then q_chimesOfFirst else q_chimesOfSecond))) (wX2_chimesOfNext  q q_chimesOfFirst q_chimesOfSecond q_lasts m_words m_saidAtFirst m_asked m_longest m_shortest) := by
  refine gm_ofW (cc := cX2_chimesOfNext) (maxL := 2) (ret := (some (.array .int))) (by decide +kernel) rfl (Nat.le_of_ble_eq_true rfl) ?_
  intro p e s m below meth c A C0 hH ls hl
  generalize ([.ref q, .int x1] : List Value).toArray = args at C0 ⊢
  have hl : lv_has ls 2 [(0, .ref q), (1, .int x1)] := hl
  generalize s.heap = H at hH ⊢
  generalize ([] : List Loc) = locs at hH ⊢
  obtain ⟨hx, hb, hml, hr, hown, hts, hA, hK, hX, hlocks⟩ := id C0
  unfold fX2_chimesOfNext at h
  refine lv_aload_n hx hb dX2_chimesOfNext_0 rfl (lv_at hl 0 rfl) ?_
  refine lv_iload_n hx hb dX2_chimesOfNext_1 rfl (lv_at hl 1 rfl) ?_
  obtain ⟨o1, ho1, h⟩ := gm_bind_e h
  refine gm_callV (As := [.int x1]) (rest := []) (n := 1) (ci := 2) (q0 := 0) C0 hH (mX2_answered l dC dI  q q_chimesOfFirst q_chimesOfSecond q_lasts m_words m_saidAtFirst m_asked m_longest m_shortest x1   ho1) gX2_chimesOfNext_X2_answered rfl (by decide +kernel) ⟨rfl, rfl, Nat.le_of_ble_eq_true rfl, Nat.le_of_ble_eq_true rfl⟩ gm_T_ok (fun _ => trivial) [0] rfl rfl rfl [] rfl rfl rfl rfl hl.1 rfl (Nat.le_of_ble_eq_true rfl) dX2_chimesOfNext_2 ⟨Nat.zero_le _, Nat.zero_le _⟩ (fun H locs hH => ?_)
  have hH : gm_H (dC, dI) A s (wX2_chimesOfNext  q q_chimesOfFirst q_chimesOfSecond q_lasts m_words m_saidAtFirst m_asked m_longest m_shortest) H locs := hH
  refine lv_iconst (v := 2) hx hb dX2_chimesOfNext_5 (by decide) ?_
  obtain ⟨hz2, h⟩ := gm_nz_e h
  refine lv_irem hx hb dX2_chimesOfNext_6 hz2 ?_
  refine lv_if_ne (tgt := 17) hx hb dX2_chimesOfNext_7 (by decide) (fun hc3 => ?_) (fun hc3 => ?_)
  · replace h := gm_neg hc3 h
    refine lv_aload_n hx hb dX2_chimesOfNext_17 rfl (lv_at hl 0 rfl) ?_
    refine gm_get (ci := 2) C0 hH inX2_chimesOfNext_X2 0 1 2 rfl rfl (by decide) rfl rfl dX2_chimesOfNext_18 ?_
    obtain rfl := Option.some.inj h
    exact gm_aret C0 hH dX2_chimesOfNext_21
  · replace h := gm_pos hc3 h
    refine lv_aload_n hx hb dX2_chimesOfNext_10 rfl (lv_at hl 0 rfl) ?_
    refine gm_get (ci := 2) C0 hH inX2_chimesOfNext_X2 0 0 1 rfl rfl (by decide) rfl rfl dX2_chimesOfNext_11 ?_
    refine lv_goto (tgt := 21) hx hb dX2_chimesOfNext_14 (by decide) ?_
    obtain rfl := Option.some.inj h
    exact gm_aret C0 hH dX2_chimesOfNext_21

/-! X2_traps -/
abbrev wX2_traps (cI : ClassId) (q q_lasts q_chimesOfFirst q_chimesOfSecond : Nat) (m_words : Int32) (m_saidAtFirst : Int32) (m_asked : Int32) (m_longest : Int32) (m_shortest : Int32) (m_lasts : Nat → Int32) : va_W := [(q, .inr (2, [.ref q_chimesOfFirst, .ref q_chimesOfSecond, .ref q_lasts, .int m_words, .int m_saidAtFirst, .int m_asked, .int m_longest, .int m_shortest])), (q_lasts, .inl (cI, 1024, .inl m_lasts))]
abbrev rX2_traps : Room := { frames := 0, cells := 0, slots := 0, locals := 0 }
def fX2_traps_b44 (N : Nat) (r4 : Int32 → Int32 → Option (Int32)) (m_words : Int32) (m_lasts : Nat → Int32) (x1 : Int32) (x2 : Int32) (x3 : Int32) : Option (Int32) := (r4 x2 ((x3 + 1)))
def fX2_traps_b4_body (N : Nat)  (m_words : Int32) (m_lasts : Nat → Int32) (x1 : Int32) (r4 : Int32 → Int32 → Option (Int32)) (x2 : Int32) (x3 : Int32) : Option (Int32) := (if m_words ≤ x3 then some (x2) else gm_let (((1 : Int32) <<< (x3 &&& 31)) : Int32) (fun (v2 : Int32) => (if (x1 &&& v2) = 0 then gm_chk ((x1 ||| v2)) 1024 ((if ((m_lasts (Int32.toNatClampNeg ((x1 ||| v2)))) &&& v2) = 0 then gm_let ((x2 ||| v2) : Int32) (fun (v6 : Int32) => (fX2_traps_b44 N r4 m_words m_lasts x1 v6 x3)) else (fX2_traps_b44 N r4 m_words m_lasts x1 x2 x3))) else (fX2_traps_b44 N r4 m_words m_lasts x1 x2 x3))))
def fX2_traps_b4 (N : Nat)  (m_words : Int32) (m_lasts : Nat → Int32) (x1 : Int32) (x2 : Int32) (x3 : Int32) : Option (Int32) := gm_fix (fX2_traps_b4_body N  m_words m_lasts x1) (fun _ _ => none) N x2 x3
def fX2_traps (N : Nat) (m_words : Int32) (m_lasts : Nat → Int32) (x1 : Int32) : Option (Int32) := (fX2_traps_b4 N  m_words m_lasts x1 0 0)
set_option maxRecDepth 20000 in
theorem inX2_traps_X2 : ∀ w ∈ u_ws RX2 TX2 8, w ∈ wsX2_traps := fun w h => by
  obtain ⟨k, hk, rfl⟩ := List.mem_map.mp h
  have hk2 := List.mem_range.mp hk
  exact List.mem_of_getElem? (i := 3 + k) (by rcases (show k = 0 ∨ k = 1 ∨ k = 2 ∨ k = 3 ∨ k = 4 ∨ k = 5 ∨ k = 6 ∨ k = 7 by omega) with rfl | rfl | rfl | rfl | rfl | rfl | rfl | rfl <;> rfl)
set_option maxRecDepth 100000 in
set_option maxHeartbeats 4000000 in
theorem tX2_traps_b44 {p : Program} {l : Launch} {e : Env} {s : State} {m : MethodId} {args : Array Value} {below : List Frame} {meth : Method} {c : Code} {A : Nat → Prop} {dC : Nat → ClassId} {dI : Nat → Nat → Nat} {cI : ClassId} {q q_lasts q_chimesOfFirst q_chimesOfSecond : Nat} {m_words : Int32} {m_saidAtFirst : Int32} {m_asked : Int32} {m_longest : Int32} {m_shortest : Int32} {m_lasts : Nat → Int32} {x1 : Int32} {x2 : Int32} {x3 : Int32} (C0 : gm_C p s m args meth c (dC, dI) [(cI, .int)] A gm_T RX2 cX2_traps 5 (some .int) wsX2_traps) {N : Nat} {out : Int32} {r4 : Int32 → Int32 → Option (Int32)} (hr4 : ∀ (x2 : Int32) (x3 : Int32) (H : Heap) (locs : List Loc) (ls : Array Slot), r4 x2 x3 = some out → gm_H (dC, dI) A s (wX2_traps cI q q_lasts q_chimesOfFirst q_chimesOfSecond m_words m_saidAtFirst m_asked m_longest m_shortest m_lasts) H locs → lv_has ls 5 [(0, .ref q), (1, .int x1), (2, .int x2), (3, .int x3)] → W p l e rX2_traps s m args below meth c H locs 0 0 (MQ below (gm_Q (dC, dI) [(cI, .int)] A (some (.int out)) (wX2_traps cI q q_lasts q_chimesOfFirst q_chimesOfSecond m_words m_saidAtFirst m_asked m_longest m_shortest m_lasts)) args s 0 0 A) (F0 m 4 ls []))   {H : Heap} {locs : List Loc} {ls : Array Slot} (h : fX2_traps_b44 N r4 m_words m_lasts x1 x2 x3 = some out) (hH : gm_H (dC, dI) A s (wX2_traps cI q q_lasts q_chimesOfFirst q_chimesOfSecond m_words m_saidAtFirst m_asked m_longest m_shortest m_lasts) H locs) (hl : lv_has ls 5 [(0, .ref q), (1, .int x1), (2, .int x2), (3, .int x3)]) : W p l e rX2_traps s m args below meth c H locs 0 0 (MQ below (gm_Q (dC, dI) [(cI, .int)] A (some (.int out)) (wX2_traps cI q q_lasts q_chimesOfFirst q_chimesOfSecond m_words m_saidAtFirst m_asked m_longest m_shortest m_lasts)) args s 0 0 A) (F0 m 44 ls []) := by
  obtain ⟨hx, hb, hml, hr, hown, hts, hA, hK, hX, hlocks⟩ := id C0
  unfold fX2_traps_b44 at h
  refine lv_iinc (v := (x3 + 1)) (lv' := [(3, .int (x3 + 1)), (0, .ref q), (1, .int x1), (2, .int x2)]) hx hb dX2_traps_44 hl (k := 3) rfl rfl (by decide) rfl (fun ls hl => ?_)
  refine lv_goto (tgt := 4) hx hb dX2_traps_47 (by decide) ?_
  exact hr4 _ _ _ _ _ h hH (lv_sub hl [1, 2, 3, 0] rfl)
set_option maxRecDepth 100000 in
set_option maxHeartbeats 4000000 in
theorem tX2_traps_b4 {p : Program} {l : Launch} {e : Env} {s : State} {m : MethodId} {args : Array Value} {below : List Frame} {meth : Method} {c : Code} {A : Nat → Prop} {dC : Nat → ClassId} {dI : Nat → Nat → Nat} {cI : ClassId} {q q_lasts q_chimesOfFirst q_chimesOfSecond : Nat} {m_words : Int32} {m_saidAtFirst : Int32} {m_asked : Int32} {m_longest : Int32} {m_shortest : Int32} {m_lasts : Nat → Int32} {x1 : Int32} (C0 : gm_C p s m args meth c (dC, dI) [(cI, .int)] A gm_T RX2 cX2_traps 5 (some .int) wsX2_traps) {N : Nat} {out : Int32}   : ∀ (n : Nat), ∀ (x2 : Int32) (x3 : Int32) (H : Heap) (locs : List Loc) (ls : Array Slot), (gm_fix (fX2_traps_b4_body N  m_words m_lasts x1) (fun _ _ => none) n) x2 x3 = some out → gm_H (dC, dI) A s (wX2_traps cI q q_lasts q_chimesOfFirst q_chimesOfSecond m_words m_saidAtFirst m_asked m_longest m_shortest m_lasts) H locs → lv_has ls 5 [(0, .ref q), (1, .int x1), (2, .int x2), (3, .int x3)] → W p l e rX2_traps s m args below meth c H locs 0 0 (MQ below (gm_Q (dC, dI) [(cI, .int)] A (some (.int out)) (wX2_traps cI q q_lasts q_chimesOfFirst q_chimesOfSecond m_words m_saidAtFirst m_asked m_longest m_shortest m_lasts)) args s 0 0 A) (F0 m 4 ls []) := by
  obtain ⟨hx, hb, hml, hr, hown, hts, hA, hK, hX, hlocks⟩ := id C0
  intro n
  induction n with
  | zero =>
    intro x2 x3 H locs ls h hH hl
    cases h
  | succ n hr4 =>
    intro x2 x3 H locs ls h hH hl
    rw [gm_fix_s] at h
    unfold fX2_traps_b4_body at h
    refine lv_iload_n hx hb dX2_traps_4 rfl (lv_at hl 3 rfl) ?_
    refine lv_aload_n hx hb dX2_traps_5 rfl (lv_at hl 0 rfl) ?_
    refine gm_get (ci := 2) C0 hH inX2_traps_X2 0 3 1 rfl rfl (by decide) rfl rfl dX2_traps_6 ?_
    refine lv_icmp_ge (tgt := 50) hx hb dX2_traps_9 (by decide) (fun hc1 => ?_) (fun hc1 => ?_)
    · replace h := gm_pos hc1 h
      refine lv_iload_n hx hb dX2_traps_50 rfl (lv_at hl 2 rfl) ?_
      obtain rfl := Option.some.inj h
      exact gm_iret C0 hH dX2_traps_51
    · replace h := gm_neg hc1 h
      refine lv_iconst (v := 1) hx hb dX2_traps_12 (by decide) ?_
      refine lv_iload_n hx hb dX2_traps_13 rfl (lv_at hl 3 rfl) ?_
      refine lv_ishl hx hb dX2_traps_14 ?_
      refine lv_topi (fun v2 ev2 => ?_)
      replace h := gm_let_e ev2 h
      refine lv_istore (lv' := [(4, .int v2), (0, .ref q), (1, .int x1), (2, .int x2), (3, .int x3)]) hx hb dX2_traps_15 hl (by decide) rfl (fun ls hl => ?_)
      refine lv_iload_n hx hb dX2_traps_17 rfl (lv_at hl 2 rfl) ?_
      refine lv_iload hx hb dX2_traps_18 (lv_at hl 0 rfl) ?_
      refine lv_iand hx hb dX2_traps_20 ?_
      refine lv_if_ne (tgt := 44) hx hb dX2_traps_21 (by decide) (fun hc3 => ?_) (fun hc3 => ?_)
      · replace h := gm_neg hc3 h
        exact tX2_traps_b44 C0 hr4 h hH (lv_sub hl [1, 2, 3, 4] rfl)
      · replace h := gm_pos hc3 h
        refine lv_aload_n hx hb dX2_traps_24 rfl (lv_at hl 1 rfl) ?_
        refine gm_get (ci := 2) C0 hH inX2_traps_X2 0 2 2 rfl rfl (by decide) rfl rfl dX2_traps_25 ?_
        refine lv_iload_n hx hb dX2_traps_28 rfl (lv_at hl 2 rfl) ?_
        refine lv_iload hx hb dX2_traps_29 (lv_at hl 0 rfl) ?_
        refine lv_ior hx hb dX2_traps_31 ?_
        obtain ⟨hi4, h⟩ := gm_chk_e h
        refine gm_iald C0 hH hi4 1 0 rfl rfl dX2_traps_32 ?_
        refine lv_iload hx hb dX2_traps_33 (lv_at hl 0 rfl) ?_
        refine lv_iand hx hb dX2_traps_35 ?_
        refine lv_if_ne (tgt := 44) hx hb dX2_traps_36 (by decide) (fun hc5 => ?_) (fun hc5 => ?_)
        · replace h := gm_neg hc5 h
          exact tX2_traps_b44 C0 hr4 h hH (lv_sub hl [1, 2, 3, 4] rfl)
        · replace h := gm_pos hc5 h
          refine lv_iload_n hx hb dX2_traps_39 rfl (lv_at hl 3 rfl) ?_
          refine lv_iload hx hb dX2_traps_40 (lv_at hl 0 rfl) ?_
          refine lv_ior hx hb dX2_traps_42 ?_
          refine lv_topi (fun v6 ev6 => ?_)
          replace h := gm_let_e ev6 h
          refine lv_istore_n (lv' := [(2, .int v6), (4, .int v2), (0, .ref q), (1, .int x1), (3, .int x3)]) hx hb dX2_traps_43 rfl hl (by decide) rfl (fun ls hl => ?_)
          exact tX2_traps_b44 C0 hr4 h hH (lv_sub hl [2, 3, 0, 4] rfl)
set_option maxRecDepth 100000 in
set_option maxHeartbeats 4000000 in
theorem mX2_traps (l : Launch) (dC : Nat → ClassId) (dI : Nat → Nat → Nat) (cI : ClassId) (q q_lasts q_chimesOfFirst q_chimesOfSecond : Nat) (m_words : Int32) (m_saidAtFirst : Int32) (m_asked : Int32) (m_longest : Int32) (m_shortest : Int32) (m_lasts : Nat → Int32) (x1 : Int32)  {N : Nat} {out : Int32} (h : fX2_traps N m_words m_lasts x1 = some out) : gm_Met l yX2_traps wsX2_traps rX2_traps (dC, dI) [(cI, .int)] gm_T [.ref q, .int x1] (wX2_traps cI q q_lasts q_chimesOfFirst q_chimesOfSecond m_words m_saidAtFirst m_asked m_longest m_shortest m_lasts) (some (.int out)) (wX2_traps cI q q_lasts q_chimesOfFirst q_chimesOfSecond m_words m_saidAtFirst m_asked m_longest m_shortest m_lasts) := by
  refine gm_ofW (cc := cX2_traps) (maxL := 5) (ret := (some .int)) (by decide +kernel) rfl (Nat.le_of_ble_eq_true rfl) ?_
  intro p e s m below meth c A C0 hH ls hl
  generalize ([.ref q, .int x1] : List Value).toArray = args at C0 ⊢
  have hl : lv_has ls 5 [(0, .ref q), (1, .int x1)] := hl
  generalize s.heap = H at hH ⊢
  generalize ([] : List Loc) = locs at hH ⊢
  obtain ⟨hx, hb, hml, hr, hown, hts, hA, hK, hX, hlocks⟩ := id C0
  unfold fX2_traps at h
  refine lv_iconst (v := 0) hx hb dX2_traps_0 (by decide) ?_
  refine lv_istore_n (lv' := [(2, .int 0), (0, .ref q), (1, .int x1)]) hx hb dX2_traps_1 rfl hl (by decide) rfl (fun ls hl => ?_)
  refine lv_iconst (v := 0) hx hb dX2_traps_2 (by decide) ?_
  refine lv_istore_n (lv' := [(3, .int 0), (2, .int 0), (0, .ref q), (1, .int x1)]) hx hb dX2_traps_3 rfl hl (by decide) rfl (fun ls hl => ?_)
  unfold fX2_traps_b4 at h
  exact tX2_traps_b4 C0  _ _ _ _ _ _ h hH (lv_sub hl [2, 3, 1, 0] rfl)

/-! X2_firstWins -/
abbrev wX2_firstWins (cI : ClassId) (q q_chimesOfFirst q_chimesOfSecond q_lasts : Nat) (m_words : Int32) (m_saidAtFirst : Int32) (m_asked : Int32) (m_longest : Int32) (m_shortest : Int32) (m_chimesOfFirst : Nat → Int32) (m_chimesOfSecond : Nat → Int32) (m_lasts : Nat → Int32) : va_W := [(q, .inr (2, [.ref q_chimesOfFirst, .ref q_chimesOfSecond, .ref q_lasts, .int m_words, .int m_saidAtFirst, .int m_asked, .int m_longest, .int m_shortest])), (q_chimesOfFirst, .inl (cI, 10, .inl m_chimesOfFirst)), (q_chimesOfSecond, .inl (cI, 10, .inl m_chimesOfSecond)), (q_lasts, .inl (cI, 1024, .inl m_lasts))]
abbrev rX2_firstWins : Room := { frames := 3, cells := 0, slots := 0, locals := 62 }
def fX2_firstWins_b95 (N : Nat)  (m_saidAtFirst : Int32) (m_asked : Int32) (m_lasts : Nat → Int32) : Option (Int32 × (Nat → Int32)) := gm_chk m_saidAtFirst 1024 ((if (((m_lasts (Int32.toNatClampNeg m_saidAtFirst)) >>> (m_asked &&& 31)) &&& 1) = 1 then some (1, m_lasts) else some (0, m_lasts)))
def fX2_firstWins_b89 (N : Nat) (r9 : (Nat → Int32) → Int32 → Option (Int32 × (Nat → Int32))) (m_words : Int32) (m_saidAtFirst : Int32) (m_asked : Int32) (m_chimesOfFirst : Nat → Int32) (m_chimesOfSecond : Nat → Int32) (m_lasts : Nat → Int32) (x1 : Int32) : Option (Int32 × (Nat → Int32)) := (r9 m_lasts ((x1 + (-1))))
def fX2_firstWins_b83 (N : Nat) (r9 : (Nat → Int32) → Int32 → Option (Int32 × (Nat → Int32))) (r52 : (Nat → Int32) → Int32 → Option (Int32 × (Nat → Int32))) (m_words : Int32) (m_saidAtFirst : Int32) (m_asked : Int32) (m_chimesOfFirst : Nat → Int32) (m_chimesOfSecond : Nat → Int32) (m_lasts : Nat → Int32) (x1 : Int32) (x3 : Int32) (x4 : Int32) : Option (Int32 × (Nat → Int32)) := (r52 m_lasts ((x4 + 1)))
def fX2_firstWins_b52_body (N : Nat) (r9 : (Nat → Int32) → Int32 → Option (Int32 × (Nat → Int32))) (m_words : Int32) (m_saidAtFirst : Int32) (m_asked : Int32) (m_chimesOfFirst : Nat → Int32) (m_chimesOfSecond : Nat → Int32) (x1 : Int32) (x3 : Int32) (r52 : (Nat → Int32) → Int32 → Option (Int32 × (Nat → Int32))) (m_lasts : Nat → Int32) (x4 : Int32) : Option (Int32 × (Nat → Int32)) := (if m_words ≤ x4 then (fX2_firstWins_b89 N r9 m_words m_saidAtFirst m_asked m_chimesOfFirst m_chimesOfSecond m_lasts x1) else gm_chk x4 10 ((if ((m_chimesOfFirst (Int32.toNatClampNeg x4)) &&& x3) = 0 then (fX2_firstWins_b83 N r9 r52 m_words m_saidAtFirst m_asked m_chimesOfFirst m_chimesOfSecond m_lasts x1 x3 x4) else gm_chk x1 1024 (gm_chk x1 1024 ((fX2_firstWins_b83 N r9 r52 m_words m_saidAtFirst m_asked m_chimesOfFirst m_chimesOfSecond (upd m_lasts (Int32.toNatClampNeg x1) (((m_lasts (Int32.toNatClampNeg x1)) ||| ((1 : Int32) <<< (x4 &&& 31))))) x1 x3 x4))))))
def fX2_firstWins_b52 (N : Nat) (r9 : (Nat → Int32) → Int32 → Option (Int32 × (Nat → Int32))) (m_words : Int32) (m_saidAtFirst : Int32) (m_asked : Int32) (m_chimesOfFirst : Nat → Int32) (m_chimesOfSecond : Nat → Int32) (x1 : Int32) (x3 : Int32) (m_lasts : Nat → Int32) (x4 : Int32) : Option (Int32 × (Nat → Int32)) := gm_fix (fX2_firstWins_b52_body N r9 m_words m_saidAtFirst m_asked m_chimesOfFirst m_chimesOfSecond x1 x3) (fun _ _ => none) N m_lasts x4
def fX2_firstWins_b83x (N : Nat) (r9 : (Nat → Int32) → Int32 → Option (Int32 × (Nat → Int32))) (r52 : (Nat → Int32) → Int32 → Option (Int32 × (Nat → Int32))) (m_words : Int32) (m_saidAtFirst : Int32) (m_asked : Int32) (m_chimesOfFirst : Nat → Int32) (m_chimesOfSecond : Nat → Int32) (m_lasts : Nat → Int32) (x1 : Int32) (x3 : Int32) (x4 : Int32) : Option (Int32 × (Nat → Int32)) := (r52 m_lasts ((x4 + 1)))
def fX2_firstWins_b52x_body (N : Nat) (r9 : (Nat → Int32) → Int32 → Option (Int32 × (Nat → Int32))) (m_words : Int32) (m_saidAtFirst : Int32) (m_asked : Int32) (m_chimesOfFirst : Nat → Int32) (m_chimesOfSecond : Nat → Int32) (x1 : Int32) (x3 : Int32) (r52 : (Nat → Int32) → Int32 → Option (Int32 × (Nat → Int32))) (m_lasts : Nat → Int32) (x4 : Int32) : Option (Int32 × (Nat → Int32)) := (if m_words ≤ x4 then (fX2_firstWins_b89 N r9 m_words m_saidAtFirst m_asked m_chimesOfFirst m_chimesOfSecond m_lasts x1) else gm_chk x4 10 ((if ((m_chimesOfSecond (Int32.toNatClampNeg x4)) &&& x3) = 0 then (fX2_firstWins_b83x N r9 r52 m_words m_saidAtFirst m_asked m_chimesOfFirst m_chimesOfSecond m_lasts x1 x3 x4) else gm_chk x1 1024 (gm_chk x1 1024 ((fX2_firstWins_b83x N r9 r52 m_words m_saidAtFirst m_asked m_chimesOfFirst m_chimesOfSecond (upd m_lasts (Int32.toNatClampNeg x1) (((m_lasts (Int32.toNatClampNeg x1)) ||| ((1 : Int32) <<< (x4 &&& 31))))) x1 x3 x4))))))
def fX2_firstWins_b52x (N : Nat) (r9 : (Nat → Int32) → Int32 → Option (Int32 × (Nat → Int32))) (m_words : Int32) (m_saidAtFirst : Int32) (m_asked : Int32) (m_chimesOfFirst : Nat → Int32) (m_chimesOfSecond : Nat → Int32) (x1 : Int32) (x3 : Int32) (m_lasts : Nat → Int32) (x4 : Int32) : Option (Int32 × (Nat → Int32)) := gm_fix (fX2_firstWins_b52x_body N r9 m_words m_saidAtFirst m_asked m_chimesOfFirst m_chimesOfSecond x1 x3) (fun _ _ => none) N m_lasts x4
def fX2_firstWins_b9_body (N : Nat)  (m_words : Int32) (m_saidAtFirst : Int32) (m_asked : Int32) (m_chimesOfFirst : Nat → Int32) (m_chimesOfSecond : Nat → Int32) (r9 : (Nat → Int32) → Int32 → Option (Int32 × (Nat → Int32))) (m_lasts : Nat → Int32) (x1 : Int32) : Option (Int32 × (Nat → Int32)) := (if x1 < m_saidAtFirst then (fX2_firstWins_b95 N  m_saidAtFirst m_asked m_lasts) else (if (x1 &&& m_saidAtFirst) = m_saidAtFirst then gm_bind (fX2_chimesOfNext N m_saidAtFirst x1) (fun o6 => if o6 = 0 then gm_bind (fX2_traps N m_words m_lasts x1) (fun o7 => gm_chk x1 1024 ((fX2_firstWins_b52 N r9 m_words m_saidAtFirst m_asked m_chimesOfFirst m_chimesOfSecond x1 o7 (upd m_lasts (Int32.toNatClampNeg x1) 0) 0))) else gm_bind (fX2_traps N m_words m_lasts x1) (fun o14 => gm_chk x1 1024 ((fX2_firstWins_b52x N r9 m_words m_saidAtFirst m_asked m_chimesOfFirst m_chimesOfSecond x1 o14 (upd m_lasts (Int32.toNatClampNeg x1) 0) 0)))) else (fX2_firstWins_b89 N r9 m_words m_saidAtFirst m_asked m_chimesOfFirst m_chimesOfSecond m_lasts x1)))
def fX2_firstWins_b9 (N : Nat)  (m_words : Int32) (m_saidAtFirst : Int32) (m_asked : Int32) (m_chimesOfFirst : Nat → Int32) (m_chimesOfSecond : Nat → Int32) (m_lasts : Nat → Int32) (x1 : Int32) : Option (Int32 × (Nat → Int32)) := gm_fix (fX2_firstWins_b9_body N  m_words m_saidAtFirst m_asked m_chimesOfFirst m_chimesOfSecond) (fun _ _ => none) N m_lasts x1
def fX2_firstWins (N : Nat) (m_words : Int32) (m_saidAtFirst : Int32) (m_asked : Int32) (m_chimesOfFirst : Nat → Int32) (m_chimesOfSecond : Nat → Int32) (m_lasts : Nat → Int32)  : Option (Int32 × (Nat → Int32)) := gm_let ((((1 : Int32) <<< (m_words &&& 31)) - 1) : Int32) (fun (v1 : Int32) => (fX2_firstWins_b9 N  m_words m_saidAtFirst m_asked m_chimesOfFirst m_chimesOfSecond m_lasts v1))
set_option maxRecDepth 20000 in
theorem inX2_firstWins_X2 : ∀ w ∈ u_ws RX2 TX2 8, w ∈ wsX2_firstWins := fun w h => by
  obtain ⟨k, hk, rfl⟩ := List.mem_map.mp h
  have hk2 := List.mem_range.mp hk
  exact List.mem_of_getElem? (i := 27 + k) (by rcases (show k = 0 ∨ k = 1 ∨ k = 2 ∨ k = 3 ∨ k = 4 ∨ k = 5 ∨ k = 6 ∨ k = 7 by omega) with rfl | rfl | rfl | rfl | rfl | rfl | rfl | rfl <;> rfl)
set_option maxRecDepth 100000 in
set_option maxHeartbeats 4000000 in
theorem tX2_firstWins_b95 {p : Program} {l : Launch} {e : Env} {s : State} {m : MethodId} {args : Array Value} {below : List Frame} {meth : Method} {c : Code} {A : Nat → Prop} {dC : Nat → ClassId} {dI : Nat → Nat → Nat} {cI : ClassId} {q q_chimesOfFirst q_chimesOfSecond q_lasts : Nat} {m_words : Int32} {m_saidAtFirst : Int32} {m_asked : Int32} {m_longest : Int32} {m_shortest : Int32} {m_chimesOfFirst : Nat → Int32} {m_chimesOfSecond : Nat → Int32} {m_lasts : Nat → Int32} (C0 : gm_C p s m args meth c (dC, dI) [(cI, .int)] A gm_T RX2 cX2_firstWins 5 (some .boolean) wsX2_firstWins) {N : Nat} {out : Int32 × (Nat → Int32)}    {H : Heap} {locs : List Loc} {ls : Array Slot} (h : fX2_firstWins_b95 N  m_saidAtFirst m_asked m_lasts = some out) (hH : gm_H (dC, dI) A s (wX2_firstWins cI q q_chimesOfFirst q_chimesOfSecond q_lasts m_words m_saidAtFirst m_asked m_longest m_shortest m_chimesOfFirst m_chimesOfSecond m_lasts) H locs) (hl : lv_has ls 5 [(0, .ref q)]) : W p l e rX2_firstWins s m args below meth c H locs 0 0 (MQ below (gm_Q (dC, dI) [(cI, .int)] A (some (.int out.1)) (wX2_firstWins cI q q_chimesOfFirst q_chimesOfSecond q_lasts m_words m_saidAtFirst m_asked m_longest m_shortest m_chimesOfFirst m_chimesOfSecond out.2)) args s 0 0 A) (F0 m 95 ls []) := by
  obtain ⟨hx, hb, hml, hr, hown, hts, hA, hK, hX, hlocks⟩ := id C0
  unfold fX2_firstWins_b95 at h
  refine lv_aload_n hx hb dX2_firstWins_95 rfl (lv_at hl 0 rfl) ?_
  refine gm_get (ci := 2) C0 hH inX2_firstWins_X2 0 2 3 rfl rfl (by decide) rfl rfl dX2_firstWins_96 ?_
  refine lv_aload_n hx hb dX2_firstWins_99 rfl (lv_at hl 0 rfl) ?_
  refine gm_get (ci := 2) C0 hH inX2_firstWins_X2 0 4 2 rfl rfl (by decide) rfl rfl dX2_firstWins_100 ?_
  obtain ⟨hi3, h⟩ := gm_chk_e h
  refine gm_iald C0 hH hi3 3 0 rfl rfl dX2_firstWins_103 ?_
  refine lv_aload_n hx hb dX2_firstWins_104 rfl (lv_at hl 0 rfl) ?_
  refine gm_get (ci := 2) C0 hH inX2_firstWins_X2 0 5 4 rfl rfl (by decide) rfl rfl dX2_firstWins_105 ?_
  refine lv_ishr hx hb dX2_firstWins_108 ?_
  refine lv_iconst (v := 1) hx hb dX2_firstWins_109 (by decide) ?_
  refine lv_iand hx hb dX2_firstWins_110 ?_
  refine lv_iconst (v := 1) hx hb dX2_firstWins_111 (by decide) ?_
  refine lv_icmp_ne (tgt := 119) hx hb dX2_firstWins_112 (by decide) (fun hc4 => ?_) (fun hc4 => ?_)
  · replace h := gm_neg hc4 h
    refine lv_iconst (v := 0) hx hb dX2_firstWins_119 (by decide) ?_
    obtain rfl := Option.some.inj h
    exact gm_zret C0 hH (show narrow .boolean (.int 0) = .int 0 by decide) dX2_firstWins_120
  · replace h := gm_pos hc4 h
    refine lv_iconst (v := 1) hx hb dX2_firstWins_115 (by decide) ?_
    refine lv_goto (tgt := 120) hx hb dX2_firstWins_116 (by decide) ?_
    obtain rfl := Option.some.inj h
    exact gm_zret C0 hH (show narrow .boolean (.int 1) = .int 1 by decide) dX2_firstWins_120
set_option maxRecDepth 100000 in
set_option maxHeartbeats 4000000 in
theorem tX2_firstWins_b89 {p : Program} {l : Launch} {e : Env} {s : State} {m : MethodId} {args : Array Value} {below : List Frame} {meth : Method} {c : Code} {A : Nat → Prop} {dC : Nat → ClassId} {dI : Nat → Nat → Nat} {cI : ClassId} {q q_chimesOfFirst q_chimesOfSecond q_lasts : Nat} {m_words : Int32} {m_saidAtFirst : Int32} {m_asked : Int32} {m_longest : Int32} {m_shortest : Int32} {m_chimesOfFirst : Nat → Int32} {m_chimesOfSecond : Nat → Int32} {m_lasts : Nat → Int32} {x1 : Int32} (C0 : gm_C p s m args meth c (dC, dI) [(cI, .int)] A gm_T RX2 cX2_firstWins 5 (some .boolean) wsX2_firstWins) {N : Nat} {out : Int32 × (Nat → Int32)} {r9 : (Nat → Int32) → Int32 → Option (Int32 × (Nat → Int32))} (hr9 : ∀ (m_lasts : Nat → Int32) (x1 : Int32) (H : Heap) (locs : List Loc) (ls : Array Slot), r9 m_lasts x1 = some out → gm_H (dC, dI) A s (wX2_firstWins cI q q_chimesOfFirst q_chimesOfSecond q_lasts m_words m_saidAtFirst m_asked m_longest m_shortest m_chimesOfFirst m_chimesOfSecond m_lasts) H locs → lv_has ls 5 [(0, .ref q), (1, .int x1)] → W p l e rX2_firstWins s m args below meth c H locs 0 0 (MQ below (gm_Q (dC, dI) [(cI, .int)] A (some (.int out.1)) (wX2_firstWins cI q q_chimesOfFirst q_chimesOfSecond q_lasts m_words m_saidAtFirst m_asked m_longest m_shortest m_chimesOfFirst m_chimesOfSecond out.2)) args s 0 0 A) (F0 m 9 ls []))   {H : Heap} {locs : List Loc} {ls : Array Slot} (h : fX2_firstWins_b89 N r9 m_words m_saidAtFirst m_asked m_chimesOfFirst m_chimesOfSecond m_lasts x1 = some out) (hH : gm_H (dC, dI) A s (wX2_firstWins cI q q_chimesOfFirst q_chimesOfSecond q_lasts m_words m_saidAtFirst m_asked m_longest m_shortest m_chimesOfFirst m_chimesOfSecond m_lasts) H locs) (hl : lv_has ls 5 [(0, .ref q), (1, .int x1)]) : W p l e rX2_firstWins s m args below meth c H locs 0 0 (MQ below (gm_Q (dC, dI) [(cI, .int)] A (some (.int out.1)) (wX2_firstWins cI q q_chimesOfFirst q_chimesOfSecond q_lasts m_words m_saidAtFirst m_asked m_longest m_shortest m_chimesOfFirst m_chimesOfSecond out.2)) args s 0 0 A) (F0 m 89 ls []) := by
  obtain ⟨hx, hb, hml, hr, hown, hts, hA, hK, hX, hlocks⟩ := id C0
  unfold fX2_firstWins_b89 at h
  refine lv_iinc (v := (x1 + (-1))) (lv' := [(1, .int (x1 + (-1))), (0, .ref q)]) hx hb dX2_firstWins_89 hl (k := 1) rfl rfl (by decide) rfl (fun ls hl => ?_)
  refine lv_goto (tgt := 9) hx hb dX2_firstWins_92 (by decide) ?_
  exact hr9 _ _ _ _ _ h hH (lv_sub hl [1, 0] rfl)
set_option maxRecDepth 100000 in
set_option maxHeartbeats 4000000 in
theorem tX2_firstWins_b83 {p : Program} {l : Launch} {e : Env} {s : State} {m : MethodId} {args : Array Value} {below : List Frame} {meth : Method} {c : Code} {A : Nat → Prop} {dC : Nat → ClassId} {dI : Nat → Nat → Nat} {cI : ClassId} {q q_chimesOfFirst q_chimesOfSecond q_lasts : Nat} {m_words : Int32} {m_saidAtFirst : Int32} {m_asked : Int32} {m_longest : Int32} {m_shortest : Int32} {m_chimesOfFirst : Nat → Int32} {m_chimesOfSecond : Nat → Int32} {m_lasts : Nat → Int32} {x1 : Int32} {x3 : Int32} {x4 : Int32} (C0 : gm_C p s m args meth c (dC, dI) [(cI, .int)] A gm_T RX2 cX2_firstWins 5 (some .boolean) wsX2_firstWins) {N : Nat} {out : Int32 × (Nat → Int32)} {r9 : (Nat → Int32) → Int32 → Option (Int32 × (Nat → Int32))} (hr9 : ∀ (m_lasts : Nat → Int32) (x1 : Int32) (H : Heap) (locs : List Loc) (ls : Array Slot), r9 m_lasts x1 = some out → gm_H (dC, dI) A s (wX2_firstWins cI q q_chimesOfFirst q_chimesOfSecond q_lasts m_words m_saidAtFirst m_asked m_longest m_shortest m_chimesOfFirst m_chimesOfSecond m_lasts) H locs → lv_has ls 5 [(0, .ref q), (1, .int x1)] → W p l e rX2_firstWins s m args below meth c H locs 0 0 (MQ below (gm_Q (dC, dI) [(cI, .int)] A (some (.int out.1)) (wX2_firstWins cI q q_chimesOfFirst q_chimesOfSecond q_lasts m_words m_saidAtFirst m_asked m_longest m_shortest m_chimesOfFirst m_chimesOfSecond out.2)) args s 0 0 A) (F0 m 9 ls [])) {r52 : (Nat → Int32) → Int32 → Option (Int32 × (Nat → Int32))} (hr52 : ∀ (m_lasts : Nat → Int32) (x4 : Int32) (H : Heap) (locs : List Loc) (ls : Array Slot), r52 m_lasts x4 = some out → gm_H (dC, dI) A s (wX2_firstWins cI q q_chimesOfFirst q_chimesOfSecond q_lasts m_words m_saidAtFirst m_asked m_longest m_shortest m_chimesOfFirst m_chimesOfSecond m_lasts) H locs → lv_has ls 5 [(0, .ref q), (1, .int x1), (2, .ref q_chimesOfFirst), (3, .int x3), (4, .int x4)] → W p l e rX2_firstWins s m args below meth c H locs 0 0 (MQ below (gm_Q (dC, dI) [(cI, .int)] A (some (.int out.1)) (wX2_firstWins cI q q_chimesOfFirst q_chimesOfSecond q_lasts m_words m_saidAtFirst m_asked m_longest m_shortest m_chimesOfFirst m_chimesOfSecond out.2)) args s 0 0 A) (F0 m 52 ls []))   {H : Heap} {locs : List Loc} {ls : Array Slot} (h : fX2_firstWins_b83 N r9 r52 m_words m_saidAtFirst m_asked m_chimesOfFirst m_chimesOfSecond m_lasts x1 x3 x4 = some out) (hH : gm_H (dC, dI) A s (wX2_firstWins cI q q_chimesOfFirst q_chimesOfSecond q_lasts m_words m_saidAtFirst m_asked m_longest m_shortest m_chimesOfFirst m_chimesOfSecond m_lasts) H locs) (hl : lv_has ls 5 [(0, .ref q), (1, .int x1), (2, .ref q_chimesOfFirst), (3, .int x3), (4, .int x4)]) : W p l e rX2_firstWins s m args below meth c H locs 0 0 (MQ below (gm_Q (dC, dI) [(cI, .int)] A (some (.int out.1)) (wX2_firstWins cI q q_chimesOfFirst q_chimesOfSecond q_lasts m_words m_saidAtFirst m_asked m_longest m_shortest m_chimesOfFirst m_chimesOfSecond out.2)) args s 0 0 A) (F0 m 83 ls []) := by
  obtain ⟨hx, hb, hml, hr, hown, hts, hA, hK, hX, hlocks⟩ := id C0
  unfold fX2_firstWins_b83 at h
  refine lv_iinc (v := (x4 + 1)) (lv' := [(4, .int (x4 + 1)), (0, .ref q), (1, .int x1), (2, .ref q_chimesOfFirst), (3, .int x3)]) hx hb dX2_firstWins_83 hl (k := 4) rfl rfl (by decide) rfl (fun ls hl => ?_)
  refine lv_goto (tgt := 52) hx hb dX2_firstWins_86 (by decide) ?_
  exact hr52 _ _ _ _ _ h hH (lv_sub hl [1, 2, 3, 4, 0] rfl)
set_option maxRecDepth 100000 in
set_option maxHeartbeats 4000000 in
theorem tX2_firstWins_b52 {p : Program} {l : Launch} {e : Env} {s : State} {m : MethodId} {args : Array Value} {below : List Frame} {meth : Method} {c : Code} {A : Nat → Prop} {dC : Nat → ClassId} {dI : Nat → Nat → Nat} {cI : ClassId} {q q_chimesOfFirst q_chimesOfSecond q_lasts : Nat} {m_words : Int32} {m_saidAtFirst : Int32} {m_asked : Int32} {m_longest : Int32} {m_shortest : Int32} {m_chimesOfFirst : Nat → Int32} {m_chimesOfSecond : Nat → Int32} {x1 : Int32} {x3 : Int32} (C0 : gm_C p s m args meth c (dC, dI) [(cI, .int)] A gm_T RX2 cX2_firstWins 5 (some .boolean) wsX2_firstWins) {N : Nat} {out : Int32 × (Nat → Int32)} {r9 : (Nat → Int32) → Int32 → Option (Int32 × (Nat → Int32))} (hr9 : ∀ (m_lasts : Nat → Int32) (x1 : Int32) (H : Heap) (locs : List Loc) (ls : Array Slot), r9 m_lasts x1 = some out → gm_H (dC, dI) A s (wX2_firstWins cI q q_chimesOfFirst q_chimesOfSecond q_lasts m_words m_saidAtFirst m_asked m_longest m_shortest m_chimesOfFirst m_chimesOfSecond m_lasts) H locs → lv_has ls 5 [(0, .ref q), (1, .int x1)] → W p l e rX2_firstWins s m args below meth c H locs 0 0 (MQ below (gm_Q (dC, dI) [(cI, .int)] A (some (.int out.1)) (wX2_firstWins cI q q_chimesOfFirst q_chimesOfSecond q_lasts m_words m_saidAtFirst m_asked m_longest m_shortest m_chimesOfFirst m_chimesOfSecond out.2)) args s 0 0 A) (F0 m 9 ls []))  : ∀ (n : Nat), ∀ (m_lasts : Nat → Int32) (x4 : Int32) (H : Heap) (locs : List Loc) (ls : Array Slot), (gm_fix (fX2_firstWins_b52_body N r9 m_words m_saidAtFirst m_asked m_chimesOfFirst m_chimesOfSecond x1 x3) (fun _ _ => none) n) m_lasts x4 = some out → gm_H (dC, dI) A s (wX2_firstWins cI q q_chimesOfFirst q_chimesOfSecond q_lasts m_words m_saidAtFirst m_asked m_longest m_shortest m_chimesOfFirst m_chimesOfSecond m_lasts) H locs → lv_has ls 5 [(0, .ref q), (1, .int x1), (2, .ref q_chimesOfFirst), (3, .int x3), (4, .int x4)] → W p l e rX2_firstWins s m args below meth c H locs 0 0 (MQ below (gm_Q (dC, dI) [(cI, .int)] A (some (.int out.1)) (wX2_firstWins cI q q_chimesOfFirst q_chimesOfSecond q_lasts m_words m_saidAtFirst m_asked m_longest m_shortest m_chimesOfFirst m_chimesOfSecond out.2)) args s 0 0 A) (F0 m 52 ls []) := by
  obtain ⟨hx, hb, hml, hr, hown, hts, hA, hK, hX, hlocks⟩ := id C0
  intro n
  induction n with
  | zero =>
    intro m_lasts x4 H locs ls h hH hl
    cases h
  | succ n hr52 =>
    intro m_lasts x4 H locs ls h hH hl
    rw [gm_fix_s] at h
    unfold fX2_firstWins_b52_body at h
    refine lv_iload hx hb dX2_firstWins_52 (lv_at hl 4 rfl) ?_
    refine lv_aload_n hx hb dX2_firstWins_54 rfl (lv_at hl 0 rfl) ?_
    refine gm_get (ci := 2) C0 hH inX2_firstWins_X2 0 3 1 rfl rfl (by decide) rfl rfl dX2_firstWins_55 ?_
    refine lv_icmp_ge (tgt := 89) hx hb dX2_firstWins_58 (by decide) (fun hc9 => ?_) (fun hc9 => ?_)
    · replace h := gm_pos hc9 h
      exact tX2_firstWins_b89 C0 hr9 h hH (lv_sub hl [0, 1] rfl)
    · replace h := gm_neg hc9 h
      refine lv_aload_n hx hb dX2_firstWins_61 rfl (lv_at hl 2 rfl) ?_
      refine lv_iload hx hb dX2_firstWins_62 (lv_at hl 4 rfl) ?_
      obtain ⟨hi10, h⟩ := gm_chk_e h
      refine gm_iald C0 hH hi10 1 0 rfl rfl dX2_firstWins_64 ?_
      refine lv_iload_n hx hb dX2_firstWins_65 rfl (lv_at hl 3 rfl) ?_
      refine lv_iand hx hb dX2_firstWins_66 ?_
      refine lv_if_eq (tgt := 83) hx hb dX2_firstWins_67 (by decide) (fun hc11 => ?_) (fun hc11 => ?_)
      · replace h := gm_pos hc11 h
        exact tX2_firstWins_b83 C0 hr9 hr52 h hH (lv_sub hl [0, 1, 2, 3, 4] rfl)
      · replace h := gm_neg hc11 h
        refine lv_aload_n hx hb dX2_firstWins_70 rfl (lv_at hl 0 rfl) ?_
        refine gm_get (ci := 2) C0 hH inX2_firstWins_X2 0 2 3 rfl rfl (by decide) rfl rfl dX2_firstWins_71 ?_
        refine lv_iload_n hx hb dX2_firstWins_74 rfl (lv_at hl 1 rfl) ?_
        refine lv_dup2_11 hx hb dX2_firstWins_75 rfl rfl ?_
        obtain ⟨hi12, h⟩ := gm_chk_e h
        refine gm_iald C0 hH hi12 3 0 rfl rfl dX2_firstWins_76 ?_
        refine lv_iconst (v := 1) hx hb dX2_firstWins_77 (by decide) ?_
        refine lv_iload hx hb dX2_firstWins_78 (lv_at hl 4 rfl) ?_
        refine lv_ishl hx hb dX2_firstWins_80 ?_
        refine lv_ior hx hb dX2_firstWins_81 ?_
        obtain ⟨hi13, h⟩ := gm_chk_e h
        refine gm_iast C0 hH hi13 3 0 rfl rfl dX2_firstWins_82 (fun H locs hH => ?_)
        have hH : gm_H (dC, dI) A s (wX2_firstWins cI q q_chimesOfFirst q_chimesOfSecond q_lasts m_words m_saidAtFirst m_asked m_longest m_shortest m_chimesOfFirst m_chimesOfSecond (upd m_lasts (Int32.toNatClampNeg x1) (((m_lasts (Int32.toNatClampNeg x1)) ||| ((1 : Int32) <<< (x4 &&& 31)))))) H locs := hH
        exact tX2_firstWins_b83 C0 hr9 hr52 h hH (lv_sub hl [0, 1, 2, 3, 4] rfl)
set_option maxRecDepth 100000 in
set_option maxHeartbeats 4000000 in
theorem tX2_firstWins_b83x {p : Program} {l : Launch} {e : Env} {s : State} {m : MethodId} {args : Array Value} {below : List Frame} {meth : Method} {c : Code} {A : Nat → Prop} {dC : Nat → ClassId} {dI : Nat → Nat → Nat} {cI : ClassId} {q q_chimesOfFirst q_chimesOfSecond q_lasts : Nat} {m_words : Int32} {m_saidAtFirst : Int32} {m_asked : Int32} {m_longest : Int32} {m_shortest : Int32} {m_chimesOfFirst : Nat → Int32} {m_chimesOfSecond : Nat → Int32} {m_lasts : Nat → Int32} {x1 : Int32} {x3 : Int32} {x4 : Int32} (C0 : gm_C p s m args meth c (dC, dI) [(cI, .int)] A gm_T RX2 cX2_firstWins 5 (some .boolean) wsX2_firstWins) {N : Nat} {out : Int32 × (Nat → Int32)} {r9 : (Nat → Int32) → Int32 → Option (Int32 × (Nat → Int32))} (hr9 : ∀ (m_lasts : Nat → Int32) (x1 : Int32) (H : Heap) (locs : List Loc) (ls : Array Slot), r9 m_lasts x1 = some out → gm_H (dC, dI) A s (wX2_firstWins cI q q_chimesOfFirst q_chimesOfSecond q_lasts m_words m_saidAtFirst m_asked m_longest m_shortest m_chimesOfFirst m_chimesOfSecond m_lasts) H locs → lv_has ls 5 [(0, .ref q), (1, .int x1)] → W p l e rX2_firstWins s m args below meth c H locs 0 0 (MQ below (gm_Q (dC, dI) [(cI, .int)] A (some (.int out.1)) (wX2_firstWins cI q q_chimesOfFirst q_chimesOfSecond q_lasts m_words m_saidAtFirst m_asked m_longest m_shortest m_chimesOfFirst m_chimesOfSecond out.2)) args s 0 0 A) (F0 m 9 ls [])) {r52 : (Nat → Int32) → Int32 → Option (Int32 × (Nat → Int32))} (hr52 : ∀ (m_lasts : Nat → Int32) (x4 : Int32) (H : Heap) (locs : List Loc) (ls : Array Slot), r52 m_lasts x4 = some out → gm_H (dC, dI) A s (wX2_firstWins cI q q_chimesOfFirst q_chimesOfSecond q_lasts m_words m_saidAtFirst m_asked m_longest m_shortest m_chimesOfFirst m_chimesOfSecond m_lasts) H locs → lv_has ls 5 [(0, .ref q), (1, .int x1), (2, .ref q_chimesOfSecond), (3, .int x3), (4, .int x4)] → W p l e rX2_firstWins s m args below meth c H locs 0 0 (MQ below (gm_Q (dC, dI) [(cI, .int)] A (some (.int out.1)) (wX2_firstWins cI q q_chimesOfFirst q_chimesOfSecond q_lasts m_words m_saidAtFirst m_asked m_longest m_shortest m_chimesOfFirst m_chimesOfSecond out.2)) args s 0 0 A) (F0 m 52 ls []))   {H : Heap} {locs : List Loc} {ls : Array Slot} (h : fX2_firstWins_b83x N r9 r52 m_words m_saidAtFirst m_asked m_chimesOfFirst m_chimesOfSecond m_lasts x1 x3 x4 = some out) (hH : gm_H (dC, dI) A s (wX2_firstWins cI q q_chimesOfFirst q_chimesOfSecond q_lasts m_words m_saidAtFirst m_asked m_longest m_shortest m_chimesOfFirst m_chimesOfSecond m_lasts) H locs) (hl : lv_has ls 5 [(0, .ref q), (1, .int x1), (2, .ref q_chimesOfSecond), (3, .int x3), (4, .int x4)]) : W p l e rX2_firstWins s m args below meth c H locs 0 0 (MQ below (gm_Q (dC, dI) [(cI, .int)] A (some (.int out.1)) (wX2_firstWins cI q q_chimesOfFirst q_chimesOfSecond q_lasts m_words m_saidAtFirst m_asked m_longest m_shortest m_chimesOfFirst m_chimesOfSecond out.2)) args s 0 0 A) (F0 m 83 ls []) := by
  obtain ⟨hx, hb, hml, hr, hown, hts, hA, hK, hX, hlocks⟩ := id C0
  unfold fX2_firstWins_b83x at h
  refine lv_iinc (v := (x4 + 1)) (lv' := [(4, .int (x4 + 1)), (0, .ref q), (1, .int x1), (2, .ref q_chimesOfSecond), (3, .int x3)]) hx hb dX2_firstWins_83 hl (k := 4) rfl rfl (by decide) rfl (fun ls hl => ?_)
  refine lv_goto (tgt := 52) hx hb dX2_firstWins_86 (by decide) ?_
  exact hr52 _ _ _ _ _ h hH (lv_sub hl [1, 2, 3, 4, 0] rfl)
set_option maxRecDepth 100000 in
set_option maxHeartbeats 4000000 in
theorem tX2_firstWins_b52x {p : Program} {l : Launch} {e : Env} {s : State} {m : MethodId} {args : Array Value} {below : List Frame} {meth : Method} {c : Code} {A : Nat → Prop} {dC : Nat → ClassId} {dI : Nat → Nat → Nat} {cI : ClassId} {q q_chimesOfFirst q_chimesOfSecond q_lasts : Nat} {m_words : Int32} {m_saidAtFirst : Int32} {m_asked : Int32} {m_longest : Int32} {m_shortest : Int32} {m_chimesOfFirst : Nat → Int32} {m_chimesOfSecond : Nat → Int32} {x1 : Int32} {x3 : Int32} (C0 : gm_C p s m args meth c (dC, dI) [(cI, .int)] A gm_T RX2 cX2_firstWins 5 (some .boolean) wsX2_firstWins) {N : Nat} {out : Int32 × (Nat → Int32)} {r9 : (Nat → Int32) → Int32 → Option (Int32 × (Nat → Int32))} (hr9 : ∀ (m_lasts : Nat → Int32) (x1 : Int32) (H : Heap) (locs : List Loc) (ls : Array Slot), r9 m_lasts x1 = some out → gm_H (dC, dI) A s (wX2_firstWins cI q q_chimesOfFirst q_chimesOfSecond q_lasts m_words m_saidAtFirst m_asked m_longest m_shortest m_chimesOfFirst m_chimesOfSecond m_lasts) H locs → lv_has ls 5 [(0, .ref q), (1, .int x1)] → W p l e rX2_firstWins s m args below meth c H locs 0 0 (MQ below (gm_Q (dC, dI) [(cI, .int)] A (some (.int out.1)) (wX2_firstWins cI q q_chimesOfFirst q_chimesOfSecond q_lasts m_words m_saidAtFirst m_asked m_longest m_shortest m_chimesOfFirst m_chimesOfSecond out.2)) args s 0 0 A) (F0 m 9 ls []))  : ∀ (n : Nat), ∀ (m_lasts : Nat → Int32) (x4 : Int32) (H : Heap) (locs : List Loc) (ls : Array Slot), (gm_fix (fX2_firstWins_b52x_body N r9 m_words m_saidAtFirst m_asked m_chimesOfFirst m_chimesOfSecond x1 x3) (fun _ _ => none) n) m_lasts x4 = some out → gm_H (dC, dI) A s (wX2_firstWins cI q q_chimesOfFirst q_chimesOfSecond q_lasts m_words m_saidAtFirst m_asked m_longest m_shortest m_chimesOfFirst m_chimesOfSecond m_lasts) H locs → lv_has ls 5 [(0, .ref q), (1, .int x1), (2, .ref q_chimesOfSecond), (3, .int x3), (4, .int x4)] → W p l e rX2_firstWins s m args below meth c H locs 0 0 (MQ below (gm_Q (dC, dI) [(cI, .int)] A (some (.int out.1)) (wX2_firstWins cI q q_chimesOfFirst q_chimesOfSecond q_lasts m_words m_saidAtFirst m_asked m_longest m_shortest m_chimesOfFirst m_chimesOfSecond out.2)) args s 0 0 A) (F0 m 52 ls []) := by
  obtain ⟨hx, hb, hml, hr, hown, hts, hA, hK, hX, hlocks⟩ := id C0
  intro n
  induction n with
  | zero =>
    intro m_lasts x4 H locs ls h hH hl
    cases h
  | succ n hr52 =>
    intro m_lasts x4 H locs ls h hH hl
    rw [gm_fix_s] at h
    unfold fX2_firstWins_b52x_body at h
    refine lv_iload hx hb dX2_firstWins_52 (lv_at hl 4 rfl) ?_
    refine lv_aload_n hx hb dX2_firstWins_54 rfl (lv_at hl 0 rfl) ?_
    refine gm_get (ci := 2) C0 hH inX2_firstWins_X2 0 3 1 rfl rfl (by decide) rfl rfl dX2_firstWins_55 ?_
    refine lv_icmp_ge (tgt := 89) hx hb dX2_firstWins_58 (by decide) (fun hc16 => ?_) (fun hc16 => ?_)
    · replace h := gm_pos hc16 h
      exact tX2_firstWins_b89 C0 hr9 h hH (lv_sub hl [0, 1] rfl)
    · replace h := gm_neg hc16 h
      refine lv_aload_n hx hb dX2_firstWins_61 rfl (lv_at hl 2 rfl) ?_
      refine lv_iload hx hb dX2_firstWins_62 (lv_at hl 4 rfl) ?_
      obtain ⟨hi17, h⟩ := gm_chk_e h
      refine gm_iald C0 hH hi17 2 0 rfl rfl dX2_firstWins_64 ?_
      refine lv_iload_n hx hb dX2_firstWins_65 rfl (lv_at hl 3 rfl) ?_
      refine lv_iand hx hb dX2_firstWins_66 ?_
      refine lv_if_eq (tgt := 83) hx hb dX2_firstWins_67 (by decide) (fun hc18 => ?_) (fun hc18 => ?_)
      · replace h := gm_pos hc18 h
        exact tX2_firstWins_b83x C0 hr9 hr52 h hH (lv_sub hl [0, 1, 2, 3, 4] rfl)
      · replace h := gm_neg hc18 h
        refine lv_aload_n hx hb dX2_firstWins_70 rfl (lv_at hl 0 rfl) ?_
        refine gm_get (ci := 2) C0 hH inX2_firstWins_X2 0 2 3 rfl rfl (by decide) rfl rfl dX2_firstWins_71 ?_
        refine lv_iload_n hx hb dX2_firstWins_74 rfl (lv_at hl 1 rfl) ?_
        refine lv_dup2_11 hx hb dX2_firstWins_75 rfl rfl ?_
        obtain ⟨hi19, h⟩ := gm_chk_e h
        refine gm_iald C0 hH hi19 3 0 rfl rfl dX2_firstWins_76 ?_
        refine lv_iconst (v := 1) hx hb dX2_firstWins_77 (by decide) ?_
        refine lv_iload hx hb dX2_firstWins_78 (lv_at hl 4 rfl) ?_
        refine lv_ishl hx hb dX2_firstWins_80 ?_
        refine lv_ior hx hb dX2_firstWins_81 ?_
        obtain ⟨hi20, h⟩ := gm_chk_e h
        refine gm_iast C0 hH hi20 3 0 rfl rfl dX2_firstWins_82 (fun H locs hH => ?_)
        have hH : gm_H (dC, dI) A s (wX2_firstWins cI q q_chimesOfFirst q_chimesOfSecond q_lasts m_words m_saidAtFirst m_asked m_longest m_shortest m_chimesOfFirst m_chimesOfSecond (upd m_lasts (Int32.toNatClampNeg x1) (((m_lasts (Int32.toNatClampNeg x1)) ||| ((1 : Int32) <<< (x4 &&& 31)))))) H locs := hH
        exact tX2_firstWins_b83x C0 hr9 hr52 h hH (lv_sub hl [0, 1, 2, 3, 4] rfl)
set_option maxRecDepth 100000 in
set_option maxHeartbeats 4000000 in
theorem tX2_firstWins_b9 {p : Program} {l : Launch} {e : Env} {s : State} {m : MethodId} {args : Array Value} {below : List Frame} {meth : Method} {c : Code} {A : Nat → Prop} {dC : Nat → ClassId} {dI : Nat → Nat → Nat} {cI : ClassId} {q q_chimesOfFirst q_chimesOfSecond q_lasts : Nat} {m_words : Int32} {m_saidAtFirst : Int32} {m_asked : Int32} {m_longest : Int32} {m_shortest : Int32} {m_chimesOfFirst : Nat → Int32} {m_chimesOfSecond : Nat → Int32} (C0 : gm_C p s m args meth c (dC, dI) [(cI, .int)] A gm_T RX2 cX2_firstWins 5 (some .boolean) wsX2_firstWins) {N : Nat} {out : Int32 × (Nat → Int32)}   : ∀ (n : Nat), ∀ (m_lasts : Nat → Int32) (x1 : Int32) (H : Heap) (locs : List Loc) (ls : Array Slot), (gm_fix (fX2_firstWins_b9_body N  m_words m_saidAtFirst m_asked m_chimesOfFirst m_chimesOfSecond) (fun _ _ => none) n) m_lasts x1 = some out → gm_H (dC, dI) A s (wX2_firstWins cI q q_chimesOfFirst q_chimesOfSecond q_lasts m_words m_saidAtFirst m_asked m_longest m_shortest m_chimesOfFirst m_chimesOfSecond m_lasts) H locs → lv_has ls 5 [(0, .ref q), (1, .int x1)] → W p l e rX2_firstWins s m args below meth c H locs 0 0 (MQ below (gm_Q (dC, dI) [(cI, .int)] A (some (.int out.1)) (wX2_firstWins cI q q_chimesOfFirst q_chimesOfSecond q_lasts m_words m_saidAtFirst m_asked m_longest m_shortest m_chimesOfFirst m_chimesOfSecond out.2)) args s 0 0 A) (F0 m 9 ls []) := by
  obtain ⟨hx, hb, hml, hr, hown, hts, hA, hK, hX, hlocks⟩ := id C0
  intro n
  induction n with
  | zero =>
    intro m_lasts x1 H locs ls h hH hl
    cases h
  | succ n hr9 =>
    intro m_lasts x1 H locs ls h hH hl
    rw [gm_fix_s] at h
    unfold fX2_firstWins_b9_body at h
    refine lv_iload_n hx hb dX2_firstWins_9 rfl (lv_at hl 1 rfl) ?_
    refine lv_aload_n hx hb dX2_firstWins_10 rfl (lv_at hl 0 rfl) ?_
    refine gm_get (ci := 2) C0 hH inX2_firstWins_X2 0 4 2 rfl rfl (by decide) rfl rfl dX2_firstWins_11 ?_
    refine lv_icmp_lt (tgt := 95) hx hb dX2_firstWins_14 (by decide) (fun hc2 => ?_) (fun hc2 => ?_)
    · replace h := gm_pos hc2 h
      exact tX2_firstWins_b95 C0  h hH (lv_sub hl [0] rfl)
    · replace h := gm_neg hc2 h
      refine lv_iload_n hx hb dX2_firstWins_17 rfl (lv_at hl 1 rfl) ?_
      refine lv_aload_n hx hb dX2_firstWins_18 rfl (lv_at hl 0 rfl) ?_
      refine gm_get (ci := 2) C0 hH inX2_firstWins_X2 0 4 2 rfl rfl (by decide) rfl rfl dX2_firstWins_19 ?_
      refine lv_iand hx hb dX2_firstWins_22 ?_
      refine lv_aload_n hx hb dX2_firstWins_23 rfl (lv_at hl 0 rfl) ?_
      refine gm_get (ci := 2) C0 hH inX2_firstWins_X2 0 4 2 rfl rfl (by decide) rfl rfl dX2_firstWins_24 ?_
      refine lv_icmp_ne (tgt := 89) hx hb dX2_firstWins_27 (by decide) (fun hc5 => ?_) (fun hc5 => ?_)
      · replace h := gm_neg hc5 h
        exact tX2_firstWins_b89 C0 hr9 h hH (lv_sub hl [0, 1] rfl)
      · replace h := gm_pos hc5 h
        refine lv_aload_n hx hb dX2_firstWins_30 rfl (lv_at hl 0 rfl) ?_
        refine lv_iload_n hx hb dX2_firstWins_31 rfl (lv_at hl 1 rfl) ?_
        obtain ⟨o6, ho6, h⟩ := gm_bind_e h
        refine gm_callV (As := [.int x1]) (rest := []) (n := 1) (ci := 2) (q0 := 0) C0 hH (mX2_chimesOfNext l dC dI  q q_chimesOfFirst q_chimesOfSecond q_lasts m_words m_saidAtFirst m_asked m_longest m_shortest x1   ho6) gX2_firstWins_X2_chimesOfNext rfl (by decide +kernel) ⟨rfl, rfl, Nat.le_of_ble_eq_true rfl, Nat.le_of_ble_eq_true rfl⟩ gm_T_ok (fun _ => trivial) [0] rfl rfl rfl [] rfl rfl rfl rfl hl.1 rfl (Nat.le_of_ble_eq_true rfl) dX2_firstWins_32 ⟨Nat.zero_le _, Nat.zero_le _⟩ (fun H locs hH => ?_)
        have hH : gm_H (dC, dI) A s (wX2_firstWins cI q q_chimesOfFirst q_chimesOfSecond q_lasts m_words m_saidAtFirst m_asked m_longest m_shortest m_chimesOfFirst m_chimesOfSecond m_lasts) H locs := hH
        by_cases hs6 : o6 = 0
        · replace h := gm_pos hs6 h
          refine W.eq (g2 := F0 m 35 ls [.ref q_chimesOfFirst]) (by simp only [if_pos hs6]; rfl) ?_
          refine lv_astore_n (lv' := [(2, .ref q_chimesOfFirst), (0, .ref q), (1, .int x1)]) hx hb dX2_firstWins_35 rfl hl (by decide) rfl (fun ls hl => ?_)
          refine lv_aload_n hx hb dX2_firstWins_36 rfl (lv_at hl 1 rfl) ?_
          refine lv_iload_n hx hb dX2_firstWins_37 rfl (lv_at hl 2 rfl) ?_
          obtain ⟨o7, ho7, h⟩ := gm_bind_e h
          refine gm_callV (As := [.int x1]) (rest := []) (n := 1) (ci := 2) (q0 := 0) C0 hH (mX2_traps l dC dI cI q q_lasts q_chimesOfFirst q_chimesOfSecond m_words m_saidAtFirst m_asked m_longest m_shortest m_lasts x1   ho7) gX2_firstWins_X2_traps rfl (by decide +kernel) ⟨rfl, rfl, Nat.le_of_ble_eq_true rfl, Nat.le_of_ble_eq_true rfl⟩ gm_T_ok (fun _ => trivial) [0, 3] rfl rfl rfl [0] rfl rfl rfl rfl hl.1 rfl (Nat.le_of_ble_eq_true rfl) dX2_firstWins_38 ⟨Nat.zero_le _, Nat.zero_le _⟩ (fun H locs hH => ?_)
          have hH : gm_H (dC, dI) A s (wX2_firstWins cI q q_chimesOfFirst q_chimesOfSecond q_lasts m_words m_saidAtFirst m_asked m_longest m_shortest m_chimesOfFirst m_chimesOfSecond m_lasts) H locs := hH
          refine lv_istore_n (lv' := [(3, .int o7), (2, .ref q_chimesOfFirst), (0, .ref q), (1, .int x1)]) hx hb dX2_firstWins_41 rfl hl (by decide) rfl (fun ls hl => ?_)
          refine lv_aload_n hx hb dX2_firstWins_42 rfl (lv_at hl 2 rfl) ?_
          refine gm_get (ci := 2) C0 hH inX2_firstWins_X2 0 2 3 rfl rfl (by decide) rfl rfl dX2_firstWins_43 ?_
          refine lv_iload_n hx hb dX2_firstWins_46 rfl (lv_at hl 3 rfl) ?_
          refine lv_iconst (v := 0) hx hb dX2_firstWins_47 (by decide) ?_
          obtain ⟨hi8, h⟩ := gm_chk_e h
          refine gm_iast C0 hH hi8 3 0 rfl rfl dX2_firstWins_48 (fun H locs hH => ?_)
          have hH : gm_H (dC, dI) A s (wX2_firstWins cI q q_chimesOfFirst q_chimesOfSecond q_lasts m_words m_saidAtFirst m_asked m_longest m_shortest m_chimesOfFirst m_chimesOfSecond (upd m_lasts (Int32.toNatClampNeg x1) 0)) H locs := hH
          refine lv_iconst (v := 0) hx hb dX2_firstWins_49 (by decide) ?_
          refine lv_istore (lv' := [(4, .int 0), (3, .int o7), (2, .ref q_chimesOfFirst), (0, .ref q), (1, .int x1)]) hx hb dX2_firstWins_50 hl (by decide) rfl (fun ls hl => ?_)
          unfold fX2_firstWins_b52 at h
          exact tX2_firstWins_b52 C0 hr9 _ _ _ _ _ _ h hH (lv_sub hl [3, 4, 2, 1, 0] rfl)
        · replace h := gm_neg hs6 h
          refine W.eq (g2 := F0 m 35 ls [.ref q_chimesOfSecond]) (by simp only [if_neg hs6]; rfl) ?_
          refine lv_astore_n (lv' := [(2, .ref q_chimesOfSecond), (0, .ref q), (1, .int x1)]) hx hb dX2_firstWins_35 rfl hl (by decide) rfl (fun ls hl => ?_)
          refine lv_aload_n hx hb dX2_firstWins_36 rfl (lv_at hl 1 rfl) ?_
          refine lv_iload_n hx hb dX2_firstWins_37 rfl (lv_at hl 2 rfl) ?_
          obtain ⟨o14, ho14, h⟩ := gm_bind_e h
          refine gm_callV (As := [.int x1]) (rest := []) (n := 1) (ci := 2) (q0 := 0) C0 hH (mX2_traps l dC dI cI q q_lasts q_chimesOfFirst q_chimesOfSecond m_words m_saidAtFirst m_asked m_longest m_shortest m_lasts x1   ho14) gX2_firstWins_X2_traps rfl (by decide +kernel) ⟨rfl, rfl, Nat.le_of_ble_eq_true rfl, Nat.le_of_ble_eq_true rfl⟩ gm_T_ok (fun _ => trivial) [0, 3] rfl rfl rfl [0] rfl rfl rfl rfl hl.1 rfl (Nat.le_of_ble_eq_true rfl) dX2_firstWins_38 ⟨Nat.zero_le _, Nat.zero_le _⟩ (fun H locs hH => ?_)
          have hH : gm_H (dC, dI) A s (wX2_firstWins cI q q_chimesOfFirst q_chimesOfSecond q_lasts m_words m_saidAtFirst m_asked m_longest m_shortest m_chimesOfFirst m_chimesOfSecond m_lasts) H locs := hH
          refine lv_istore_n (lv' := [(3, .int o14), (2, .ref q_chimesOfSecond), (0, .ref q), (1, .int x1)]) hx hb dX2_firstWins_41 rfl hl (by decide) rfl (fun ls hl => ?_)
          refine lv_aload_n hx hb dX2_firstWins_42 rfl (lv_at hl 2 rfl) ?_
          refine gm_get (ci := 2) C0 hH inX2_firstWins_X2 0 2 3 rfl rfl (by decide) rfl rfl dX2_firstWins_43 ?_
          refine lv_iload_n hx hb dX2_firstWins_46 rfl (lv_at hl 3 rfl) ?_
          refine lv_iconst (v := 0) hx hb dX2_firstWins_47 (by decide) ?_
          obtain ⟨hi15, h⟩ := gm_chk_e h
          refine gm_iast C0 hH hi15 3 0 rfl rfl dX2_firstWins_48 (fun H locs hH => ?_)
          have hH : gm_H (dC, dI) A s (wX2_firstWins cI q q_chimesOfFirst q_chimesOfSecond q_lasts m_words m_saidAtFirst m_asked m_longest m_shortest m_chimesOfFirst m_chimesOfSecond (upd m_lasts (Int32.toNatClampNeg x1) 0)) H locs := hH
          refine lv_iconst (v := 0) hx hb dX2_firstWins_49 (by decide) ?_
          refine lv_istore (lv' := [(4, .int 0), (3, .int o14), (2, .ref q_chimesOfSecond), (0, .ref q), (1, .int x1)]) hx hb dX2_firstWins_50 hl (by decide) rfl (fun ls hl => ?_)
          unfold fX2_firstWins_b52x at h
          exact tX2_firstWins_b52x C0 hr9 _ _ _ _ _ _ h hH (lv_sub hl [3, 4, 2, 1, 0] rfl)
set_option maxRecDepth 100000 in
set_option maxHeartbeats 4000000 in
theorem mX2_firstWins (l : Launch) (dC : Nat → ClassId) (dI : Nat → Nat → Nat) (cI : ClassId) (q q_chimesOfFirst q_chimesOfSecond q_lasts : Nat) (m_words : Int32) (m_saidAtFirst : Int32) (m_asked : Int32) (m_longest : Int32) (m_shortest : Int32) (m_chimesOfFirst : Nat → Int32) (m_chimesOfSecond : Nat → Int32) (m_lasts : Nat → Int32)   {N : Nat} {out : Int32 × (Nat → Int32)} (h : fX2_firstWins N m_words m_saidAtFirst m_asked m_chimesOfFirst m_chimesOfSecond m_lasts = some out) : gm_Met l yX2_firstWins wsX2_firstWins rX2_firstWins (dC, dI) [(cI, .int)] gm_T [.ref q] (wX2_firstWins cI q q_chimesOfFirst q_chimesOfSecond q_lasts m_words m_saidAtFirst m_asked m_longest m_shortest m_chimesOfFirst m_chimesOfSecond m_lasts) (some (.int out.1)) (wX2_firstWins cI q q_chimesOfFirst q_chimesOfSecond q_lasts m_words m_saidAtFirst m_asked m_longest m_shortest m_chimesOfFirst m_chimesOfSecond out.2) := by
  refine gm_ofW (cc := cX2_firstWins) (maxL := 5) (ret := (some .boolean)) (by decide +kernel) rfl (Nat.le_of_ble_eq_true rfl) ?_
  intro p e s m below meth c A C0 hH ls hl
  generalize ([.ref q] : List Value).toArray = args at C0 ⊢
  have hl : lv_has ls 5 [(0, .ref q)] := hl
  generalize s.heap = H at hH ⊢
  generalize ([] : List Loc) = locs at hH ⊢
  obtain ⟨hx, hb, hml, hr, hown, hts, hA, hK, hX, hlocks⟩ := id C0
  unfold fX2_firstWins at h
  refine lv_iconst (v := 1) hx hb dX2_firstWins_0 (by decide) ?_
  refine lv_aload_n hx hb dX2_firstWins_1 rfl (lv_at hl 0 rfl) ?_
  refine gm_get (ci := 2) C0 hH inX2_firstWins_X2 0 3 1 rfl rfl (by decide) rfl rfl dX2_firstWins_2 ?_
  refine lv_ishl hx hb dX2_firstWins_5 ?_
  refine lv_iconst (v := 1) hx hb dX2_firstWins_6 (by decide) ?_
  refine lv_isub hx hb dX2_firstWins_7 ?_
  refine lv_topi (fun v1 ev1 => ?_)
  replace h := gm_let_e ev1 h
  refine lv_istore_n (lv' := [(1, .int v1), (0, .ref q)]) hx hb dX2_firstWins_8 rfl hl (by decide) rfl (fun ls hl => ?_)
  unfold fX2_firstWins_b9 at h
  exact tX2_firstWins_b9 C0  _ _ _ _ _ _ h hH (lv_sub hl [1, 0] rfl)

/-! X2_goOn -/
abbrev wX2_goOn (cI : ClassId) (q q_chimesOfFirst q_chimesOfSecond q_lasts : Nat) (m_words : Int32) (m_saidAtFirst : Int32) (m_asked : Int32) (m_longest : Int32) (m_shortest : Int32) (m_chimesOfFirst : Nat → Int32) (m_chimesOfSecond : Nat → Int32) (m_lasts : Nat → Int32) : va_W := [(q, .inr (2, [.ref q_chimesOfFirst, .ref q_chimesOfSecond, .ref q_lasts, .int m_words, .int m_saidAtFirst, .int m_asked, .int m_longest, .int m_shortest])), (q_chimesOfFirst, .inl (cI, 10, .inl m_chimesOfFirst)), (q_chimesOfSecond, .inl (cI, 10, .inl m_chimesOfSecond)), (q_lasts, .inl (cI, 1024, .inl m_lasts))]
abbrev rX2_goOn : Room := { frames := 3, cells := 0, slots := 0, locals := 62 }
def fX2_goOn_b134 (N : Nat) (r97 : (Nat → Int32) → Int32 → Option (Int32 × Int32 × (Nat → Int32))) (m_words : Int32) (m_longest : Int32) (m_shortest : Int32) (m_lasts : Nat → Int32) (x1 : Int32) (x4 : Int32) (x5 : Int32) : Option (Int32 × Int32 × (Nat → Int32)) := (r97 m_lasts ((x5 + 1)))
def fX2_goOn_b97_body (N : Nat)  (m_words : Int32) (m_longest : Int32) (m_shortest : Int32) (x1 : Int32) (x4 : Int32) (r97 : (Nat → Int32) → Int32 → Option (Int32 × Int32 × (Nat → Int32))) (m_lasts : Nat → Int32) (x5 : Int32) : Option (Int32 × Int32 × (Nat → Int32)) := (if m_words ≤ x5 then some (m_longest, m_shortest, m_lasts) else gm_let (((1 : Int32) <<< (x5 &&& 31)) : Int32) (fun (v5 : Int32) => (if (x4 &&& v5) = 0 then (fX2_goOn_b134 N r97 m_words m_longest m_shortest m_lasts x1 x4 x5) else gm_chk ((x1 ||| v5)) 1024 (gm_chk ((x1 ||| v5)) 1024 ((fX2_goOn_b134 N r97 m_words m_longest m_shortest (upd m_lasts (Int32.toNatClampNeg ((x1 ||| v5))) (((m_lasts (Int32.toNatClampNeg ((x1 ||| v5)))) ||| v5))) x1 x4 x5))))))
def fX2_goOn_b97 (N : Nat)  (m_words : Int32) (m_longest : Int32) (m_shortest : Int32) (x1 : Int32) (x4 : Int32) (m_lasts : Nat → Int32) (x5 : Int32) : Option (Int32 × Int32 × (Nat → Int32)) := gm_fix (fX2_goOn_b97_body N  m_words m_longest m_shortest x1 x4) (fun _ _ => none) N m_lasts x5
def fX2_goOn_b94 (N : Nat)  (m_words : Int32) (m_longest : Int32) (m_shortest : Int32) (m_lasts : Nat → Int32) (x1 : Int32) (x4 : Int32) : Option (Int32 × Int32 × (Nat → Int32)) := (fX2_goOn_b97 N  m_words m_longest m_shortest x1 x4 m_lasts 0)
def fX2_goOn_b88 (N : Nat) (r18 : Int32 → Int32 → Int32 → Int32 → Option (Int32 × Int32 × (Nat → Int32))) (m_words : Int32) (m_longest : Int32) (m_shortest : Int32) (m_chimesOfFirst : Nat → Int32) (m_chimesOfSecond : Nat → Int32) (m_lasts : Nat → Int32) (x1 : Int32) (x3 : Int32) (x4 : Int32) (x5 : Int32) : Option (Int32 × Int32 × (Nat → Int32)) := (r18 m_longest m_shortest x4 ((x5 + 1)))
def fX2_goOn_b18_body (N : Nat)  (m_words : Int32) (m_chimesOfFirst : Nat → Int32) (m_chimesOfSecond : Nat → Int32) (m_lasts : Nat → Int32) (x1 : Int32) (x3 : Int32) (r18 : Int32 → Int32 → Int32 → Int32 → Option (Int32 × Int32 × (Nat → Int32))) (m_longest : Int32) (m_shortest : Int32) (x4 : Int32) (x5 : Int32) : Option (Int32 × Int32 × (Nat → Int32)) := (if m_words ≤ x5 then (fX2_goOn_b94 N  m_words m_longest m_shortest m_lasts x1 x4) else gm_chk x1 1024 ((if (((m_lasts (Int32.toNatClampNeg x1)) >>> (x5 &&& 31)) &&& 1) = 1 then gm_chk x5 10 (gm_let (((m_chimesOfFirst (Int32.toNatClampNeg x5)) &&& (x1 ^^^ (-1))) : Int32) (fun (v12 : Int32) => gm_let ((x4 ||| v12) : Int32) (fun (v13 : Int32) => (if v12 = 0 then gm_let ((if m_longest < x3 then x3 else m_longest) : Int32) (fun (v15 : Int32) => gm_let ((if x3 < m_shortest then x3 else m_shortest) : Int32) (fun (v16 : Int32) => (fX2_goOn_b88 N r18 m_words v15 v16 m_chimesOfFirst m_chimesOfSecond m_lasts x1 x3 v13 x5))) else (fX2_goOn_b88 N r18 m_words m_longest m_shortest m_chimesOfFirst m_chimesOfSecond m_lasts x1 x3 v13 x5))))) else (fX2_goOn_b88 N r18 m_words m_longest m_shortest m_chimesOfFirst m_chimesOfSecond m_lasts x1 x3 x4 x5))))
def fX2_goOn_b18 (N : Nat)  (m_words : Int32) (m_chimesOfFirst : Nat → Int32) (m_chimesOfSecond : Nat → Int32) (m_lasts : Nat → Int32) (x1 : Int32) (x3 : Int32) (m_longest : Int32) (m_shortest : Int32) (x4 : Int32) (x5 : Int32) : Option (Int32 × Int32 × (Nat → Int32)) := gm_fix (fX2_goOn_b18_body N  m_words m_chimesOfFirst m_chimesOfSecond m_lasts x1 x3) (fun _ _ _ _ => none) N m_longest m_shortest x4 x5
def fX2_goOn_b88x (N : Nat) (r18 : Int32 → Int32 → Int32 → Int32 → Option (Int32 × Int32 × (Nat → Int32))) (m_words : Int32) (m_longest : Int32) (m_shortest : Int32) (m_chimesOfFirst : Nat → Int32) (m_chimesOfSecond : Nat → Int32) (m_lasts : Nat → Int32) (x1 : Int32) (x3 : Int32) (x4 : Int32) (x5 : Int32) : Option (Int32 × Int32 × (Nat → Int32)) := (r18 m_longest m_shortest x4 ((x5 + 1)))
def fX2_goOn_b18x_body (N : Nat)  (m_words : Int32) (m_chimesOfFirst : Nat → Int32) (m_chimesOfSecond : Nat → Int32) (m_lasts : Nat → Int32) (x1 : Int32) (x3 : Int32) (r18 : Int32 → Int32 → Int32 → Int32 → Option (Int32 × Int32 × (Nat → Int32))) (m_longest : Int32) (m_shortest : Int32) (x4 : Int32) (x5 : Int32) : Option (Int32 × Int32 × (Nat → Int32)) := (if m_words ≤ x5 then (fX2_goOn_b94 N  m_words m_longest m_shortest m_lasts x1 x4) else gm_chk x1 1024 ((if (((m_lasts (Int32.toNatClampNeg x1)) >>> (x5 &&& 31)) &&& 1) = 1 then gm_chk x5 10 (gm_let (((m_chimesOfSecond (Int32.toNatClampNeg x5)) &&& (x1 ^^^ (-1))) : Int32) (fun (v22 : Int32) => gm_let ((x4 ||| v22) : Int32) (fun (v23 : Int32) => (if v22 = 0 then gm_let ((if m_longest < x3 then x3 else m_longest) : Int32) (fun (v25 : Int32) => gm_let ((if x3 < m_shortest then x3 else m_shortest) : Int32) (fun (v26 : Int32) => (fX2_goOn_b88x N r18 m_words v25 v26 m_chimesOfFirst m_chimesOfSecond m_lasts x1 x3 v23 x5))) else (fX2_goOn_b88x N r18 m_words m_longest m_shortest m_chimesOfFirst m_chimesOfSecond m_lasts x1 x3 v23 x5))))) else (fX2_goOn_b88x N r18 m_words m_longest m_shortest m_chimesOfFirst m_chimesOfSecond m_lasts x1 x3 x4 x5))))
def fX2_goOn_b18x (N : Nat)  (m_words : Int32) (m_chimesOfFirst : Nat → Int32) (m_chimesOfSecond : Nat → Int32) (m_lasts : Nat → Int32) (x1 : Int32) (x3 : Int32) (m_longest : Int32) (m_shortest : Int32) (x4 : Int32) (x5 : Int32) : Option (Int32 × Int32 × (Nat → Int32)) := gm_fix (fX2_goOn_b18x_body N  m_words m_chimesOfFirst m_chimesOfSecond m_lasts x1 x3) (fun _ _ _ _ => none) N m_longest m_shortest x4 x5
def fX2_goOn (N : Nat) (m_words : Int32) (m_saidAtFirst : Int32) (m_longest : Int32) (m_shortest : Int32) (m_chimesOfFirst : Nat → Int32) (m_chimesOfSecond : Nat → Int32) (m_lasts : Nat → Int32) (x1 : Int32) : Option (Int32 × Int32 × (Nat → Int32)) := gm_bind (fX2_chimesOfNext N m_saidAtFirst x1) (fun o1 => if o1 = 0 then gm_bind (fX2_answered N m_saidAtFirst x1) (fun o2 => (fX2_goOn_b18 N  m_words m_chimesOfFirst m_chimesOfSecond m_lasts x1 o2 m_longest m_shortest 0 0)) else gm_bind (fX2_answered N m_saidAtFirst x1) (fun o17 => (fX2_goOn_b18x N  m_words m_chimesOfFirst m_chimesOfSecond m_lasts x1 o17 m_longest m_shortest 0 0)))
set_option maxRecDepth 20000 in
theorem inX2_goOn_X2 : ∀ w ∈ u_ws RX2 TX2 8, w ∈ wsX2_goOn := fun w h => by
  obtain ⟨k, hk, rfl⟩ := List.mem_map.mp h
  have hk2 := List.mem_range.mp hk
  exact List.mem_of_getElem? (i := 31 + k) (by rcases (show k = 0 ∨ k = 1 ∨ k = 2 ∨ k = 3 ∨ k = 4 ∨ k = 5 ∨ k = 6 ∨ k = 7 by omega) with rfl | rfl | rfl | rfl | rfl | rfl | rfl | rfl <;> rfl)
set_option maxRecDepth 100000 in
set_option maxHeartbeats 4000000 in
theorem tX2_goOn_b134 {p : Program} {l : Launch} {e : Env} {s : State} {m : MethodId} {args : Array Value} {below : List Frame} {meth : Method} {c : Code} {A : Nat → Prop} {dC : Nat → ClassId} {dI : Nat → Nat → Nat} {cI : ClassId} {q q_chimesOfFirst q_chimesOfSecond q_lasts : Nat} {m_words : Int32} {m_saidAtFirst : Int32} {m_asked : Int32} {m_longest : Int32} {m_shortest : Int32} {m_chimesOfFirst : Nat → Int32} {m_chimesOfSecond : Nat → Int32} {m_lasts : Nat → Int32} {x1 : Int32} {x4 : Int32} {x5 : Int32} (C0 : gm_C p s m args meth c (dC, dI) [(cI, .int)] A gm_T RX2 cX2_goOn 7 none wsX2_goOn) {N : Nat} {out : Int32 × Int32 × (Nat → Int32)} {r97 : (Nat → Int32) → Int32 → Option (Int32 × Int32 × (Nat → Int32))} (hr97 : ∀ (m_lasts : Nat → Int32) (x5 : Int32) (H : Heap) (locs : List Loc) (ls : Array Slot), r97 m_lasts x5 = some out → gm_H (dC, dI) A s (wX2_goOn cI q q_chimesOfFirst q_chimesOfSecond q_lasts m_words m_saidAtFirst m_asked m_longest m_shortest m_chimesOfFirst m_chimesOfSecond m_lasts) H locs → lv_has ls 7 [(0, .ref q), (1, .int x1), (4, .int x4), (5, .int x5)] → W p l e rX2_goOn s m args below meth c H locs 0 0 (MQ below (gm_Q (dC, dI) [(cI, .int)] A none (wX2_goOn cI q q_chimesOfFirst q_chimesOfSecond q_lasts m_words m_saidAtFirst m_asked out.1 out.2.1 m_chimesOfFirst m_chimesOfSecond out.2.2)) args s 0 0 A) (F0 m 97 ls []))   {H : Heap} {locs : List Loc} {ls : Array Slot} (h : fX2_goOn_b134 N r97 m_words m_longest m_shortest m_lasts x1 x4 x5 = some out) (hH : gm_H (dC, dI) A s (wX2_goOn cI q q_chimesOfFirst q_chimesOfSecond q_lasts m_words m_saidAtFirst m_asked m_longest m_shortest m_chimesOfFirst m_chimesOfSecond m_lasts) H locs) (hl : lv_has ls 7 [(0, .ref q), (1, .int x1), (4, .int x4), (5, .int x5)]) : W p l e rX2_goOn s m args below meth c H locs 0 0 (MQ below (gm_Q (dC, dI) [(cI, .int)] A none (wX2_goOn cI q q_chimesOfFirst q_chimesOfSecond q_lasts m_words m_saidAtFirst m_asked out.1 out.2.1 m_chimesOfFirst m_chimesOfSecond out.2.2)) args s 0 0 A) (F0 m 134 ls []) := by
  obtain ⟨hx, hb, hml, hr, hown, hts, hA, hK, hX, hlocks⟩ := id C0
  unfold fX2_goOn_b134 at h
  refine lv_iinc (v := (x5 + 1)) (lv' := [(5, .int (x5 + 1)), (0, .ref q), (1, .int x1), (4, .int x4)]) hx hb dX2_goOn_134 hl (k := 3) rfl rfl (by decide) rfl (fun ls hl => ?_)
  refine lv_goto (tgt := 97) hx hb dX2_goOn_137 (by decide) ?_
  exact hr97 _ _ _ _ _ h hH (lv_sub hl [1, 2, 3, 0] rfl)
set_option maxRecDepth 100000 in
set_option maxHeartbeats 4000000 in
theorem tX2_goOn_b97 {p : Program} {l : Launch} {e : Env} {s : State} {m : MethodId} {args : Array Value} {below : List Frame} {meth : Method} {c : Code} {A : Nat → Prop} {dC : Nat → ClassId} {dI : Nat → Nat → Nat} {cI : ClassId} {q q_chimesOfFirst q_chimesOfSecond q_lasts : Nat} {m_words : Int32} {m_saidAtFirst : Int32} {m_asked : Int32} {m_longest : Int32} {m_shortest : Int32} {m_chimesOfFirst : Nat → Int32} {m_chimesOfSecond : Nat → Int32} {x1 : Int32} {x4 : Int32} (C0 : gm_C p s m args meth c (dC, dI) [(cI, .int)] A gm_T RX2 cX2_goOn 7 none wsX2_goOn) {N : Nat} {out : Int32 × Int32 × (Nat → Int32)}   : ∀ (n : Nat), ∀ (m_lasts : Nat → Int32) (x5 : Int32) (H : Heap) (locs : List Loc) (ls : Array Slot), (gm_fix (fX2_goOn_b97_body N  m_words m_longest m_shortest x1 x4) (fun _ _ => none) n) m_lasts x5 = some out → gm_H (dC, dI) A s (wX2_goOn cI q q_chimesOfFirst q_chimesOfSecond q_lasts m_words m_saidAtFirst m_asked m_longest m_shortest m_chimesOfFirst m_chimesOfSecond m_lasts) H locs → lv_has ls 7 [(0, .ref q), (1, .int x1), (4, .int x4), (5, .int x5)] → W p l e rX2_goOn s m args below meth c H locs 0 0 (MQ below (gm_Q (dC, dI) [(cI, .int)] A none (wX2_goOn cI q q_chimesOfFirst q_chimesOfSecond q_lasts m_words m_saidAtFirst m_asked out.1 out.2.1 m_chimesOfFirst m_chimesOfSecond out.2.2)) args s 0 0 A) (F0 m 97 ls []) := by
  obtain ⟨hx, hb, hml, hr, hown, hts, hA, hK, hX, hlocks⟩ := id C0
  intro n
  induction n with
  | zero =>
    intro m_lasts x5 H locs ls h hH hl
    cases h
  | succ n hr97 =>
    intro m_lasts x5 H locs ls h hH hl
    rw [gm_fix_s] at h
    unfold fX2_goOn_b97_body at h
    refine lv_iload hx hb dX2_goOn_97 (lv_at hl 3 rfl) ?_
    refine lv_aload_n hx hb dX2_goOn_99 rfl (lv_at hl 0 rfl) ?_
    refine gm_get (ci := 2) C0 hH inX2_goOn_X2 0 3 1 rfl rfl (by decide) rfl rfl dX2_goOn_100 ?_
    refine lv_icmp_ge (tgt := 140) hx hb dX2_goOn_103 (by decide) (fun hc4 => ?_) (fun hc4 => ?_)
    · replace h := gm_pos hc4 h
      obtain rfl := Option.some.inj h
      exact gm_vret C0 hH dX2_goOn_140
    · replace h := gm_neg hc4 h
      refine lv_iconst (v := 1) hx hb dX2_goOn_106 (by decide) ?_
      refine lv_iload hx hb dX2_goOn_107 (lv_at hl 3 rfl) ?_
      refine lv_ishl hx hb dX2_goOn_109 ?_
      refine lv_topi (fun v5 ev5 => ?_)
      replace h := gm_let_e ev5 h
      refine lv_istore (lv' := [(6, .int v5), (0, .ref q), (1, .int x1), (4, .int x4), (5, .int x5)]) hx hb dX2_goOn_110 hl (by decide) rfl (fun ls hl => ?_)
      refine lv_iload hx hb dX2_goOn_112 (lv_at hl 3 rfl) ?_
      refine lv_iload hx hb dX2_goOn_114 (lv_at hl 0 rfl) ?_
      refine lv_iand hx hb dX2_goOn_116 ?_
      refine lv_if_eq (tgt := 134) hx hb dX2_goOn_117 (by decide) (fun hc6 => ?_) (fun hc6 => ?_)
      · replace h := gm_pos hc6 h
        exact tX2_goOn_b134 C0 hr97 h hH (lv_sub hl [1, 2, 3, 4] rfl)
      · replace h := gm_neg hc6 h
        refine lv_aload_n hx hb dX2_goOn_120 rfl (lv_at hl 1 rfl) ?_
        refine gm_get (ci := 2) C0 hH inX2_goOn_X2 0 2 2 rfl rfl (by decide) rfl rfl dX2_goOn_121 ?_
        refine lv_iload_n hx hb dX2_goOn_124 rfl (lv_at hl 2 rfl) ?_
        refine lv_iload hx hb dX2_goOn_125 (lv_at hl 0 rfl) ?_
        refine lv_ior hx hb dX2_goOn_127 ?_
        refine lv_dup2_11 hx hb dX2_goOn_128 rfl rfl ?_
        obtain ⟨hi7, h⟩ := gm_chk_e h
        refine gm_iald C0 hH hi7 3 0 rfl rfl dX2_goOn_129 ?_
        refine lv_iload hx hb dX2_goOn_130 (lv_at hl 0 rfl) ?_
        refine lv_ior hx hb dX2_goOn_132 ?_
        obtain ⟨hi8, h⟩ := gm_chk_e h
        refine gm_iast C0 hH hi8 3 0 rfl rfl dX2_goOn_133 (fun H locs hH => ?_)
        have hH : gm_H (dC, dI) A s (wX2_goOn cI q q_chimesOfFirst q_chimesOfSecond q_lasts m_words m_saidAtFirst m_asked m_longest m_shortest m_chimesOfFirst m_chimesOfSecond (upd m_lasts (Int32.toNatClampNeg ((x1 ||| v5))) (((m_lasts (Int32.toNatClampNeg ((x1 ||| v5)))) ||| v5)))) H locs := hH
        exact tX2_goOn_b134 C0 hr97 h hH (lv_sub hl [1, 2, 3, 4] rfl)
set_option maxRecDepth 100000 in
set_option maxHeartbeats 4000000 in
theorem tX2_goOn_b94 {p : Program} {l : Launch} {e : Env} {s : State} {m : MethodId} {args : Array Value} {below : List Frame} {meth : Method} {c : Code} {A : Nat → Prop} {dC : Nat → ClassId} {dI : Nat → Nat → Nat} {cI : ClassId} {q q_chimesOfFirst q_chimesOfSecond q_lasts : Nat} {m_words : Int32} {m_saidAtFirst : Int32} {m_asked : Int32} {m_longest : Int32} {m_shortest : Int32} {m_chimesOfFirst : Nat → Int32} {m_chimesOfSecond : Nat → Int32} {m_lasts : Nat → Int32} {x1 : Int32} {x4 : Int32} (C0 : gm_C p s m args meth c (dC, dI) [(cI, .int)] A gm_T RX2 cX2_goOn 7 none wsX2_goOn) {N : Nat} {out : Int32 × Int32 × (Nat → Int32)}    {H : Heap} {locs : List Loc} {ls : Array Slot} (h : fX2_goOn_b94 N  m_words m_longest m_shortest m_lasts x1 x4 = some out) (hH : gm_H (dC, dI) A s (wX2_goOn cI q q_chimesOfFirst q_chimesOfSecond q_lasts m_words m_saidAtFirst m_asked m_longest m_shortest m_chimesOfFirst m_chimesOfSecond m_lasts) H locs) (hl : lv_has ls 7 [(0, .ref q), (1, .int x1), (4, .int x4)]) : W p l e rX2_goOn s m args below meth c H locs 0 0 (MQ below (gm_Q (dC, dI) [(cI, .int)] A none (wX2_goOn cI q q_chimesOfFirst q_chimesOfSecond q_lasts m_words m_saidAtFirst m_asked out.1 out.2.1 m_chimesOfFirst m_chimesOfSecond out.2.2)) args s 0 0 A) (F0 m 94 ls []) := by
  obtain ⟨hx, hb, hml, hr, hown, hts, hA, hK, hX, hlocks⟩ := id C0
  unfold fX2_goOn_b94 at h
  refine lv_iconst (v := 0) hx hb dX2_goOn_94 (by decide) ?_
  refine lv_istore (lv' := [(5, .int 0), (0, .ref q), (1, .int x1), (4, .int x4)]) hx hb dX2_goOn_95 hl (by decide) rfl (fun ls hl => ?_)
  unfold fX2_goOn_b97 at h
  exact tX2_goOn_b97 C0  _ _ _ _ _ _ h hH (lv_sub hl [1, 2, 3, 0] rfl)
set_option maxRecDepth 100000 in
set_option maxHeartbeats 4000000 in
theorem tX2_goOn_b88 {p : Program} {l : Launch} {e : Env} {s : State} {m : MethodId} {args : Array Value} {below : List Frame} {meth : Method} {c : Code} {A : Nat → Prop} {dC : Nat → ClassId} {dI : Nat → Nat → Nat} {cI : ClassId} {q q_chimesOfFirst q_chimesOfSecond q_lasts : Nat} {m_words : Int32} {m_saidAtFirst : Int32} {m_asked : Int32} {m_longest : Int32} {m_shortest : Int32} {m_chimesOfFirst : Nat → Int32} {m_chimesOfSecond : Nat → Int32} {m_lasts : Nat → Int32} {x1 : Int32} {x3 : Int32} {x4 : Int32} {x5 : Int32} (C0 : gm_C p s m args meth c (dC, dI) [(cI, .int)] A gm_T RX2 cX2_goOn 7 none wsX2_goOn) {N : Nat} {out : Int32 × Int32 × (Nat → Int32)} {r18 : Int32 → Int32 → Int32 → Int32 → Option (Int32 × Int32 × (Nat → Int32))} (hr18 : ∀ (m_longest : Int32) (m_shortest : Int32) (x4 : Int32) (x5 : Int32) (H : Heap) (locs : List Loc) (ls : Array Slot), r18 m_longest m_shortest x4 x5 = some out → gm_H (dC, dI) A s (wX2_goOn cI q q_chimesOfFirst q_chimesOfSecond q_lasts m_words m_saidAtFirst m_asked m_longest m_shortest m_chimesOfFirst m_chimesOfSecond m_lasts) H locs → lv_has ls 7 [(0, .ref q), (1, .int x1), (2, .ref q_chimesOfFirst), (3, .int x3), (4, .int x4), (5, .int x5)] → W p l e rX2_goOn s m args below meth c H locs 0 0 (MQ below (gm_Q (dC, dI) [(cI, .int)] A none (wX2_goOn cI q q_chimesOfFirst q_chimesOfSecond q_lasts m_words m_saidAtFirst m_asked out.1 out.2.1 m_chimesOfFirst m_chimesOfSecond out.2.2)) args s 0 0 A) (F0 m 18 ls []))   {H : Heap} {locs : List Loc} {ls : Array Slot} (h : fX2_goOn_b88 N r18 m_words m_longest m_shortest m_chimesOfFirst m_chimesOfSecond m_lasts x1 x3 x4 x5 = some out) (hH : gm_H (dC, dI) A s (wX2_goOn cI q q_chimesOfFirst q_chimesOfSecond q_lasts m_words m_saidAtFirst m_asked m_longest m_shortest m_chimesOfFirst m_chimesOfSecond m_lasts) H locs) (hl : lv_has ls 7 [(0, .ref q), (1, .int x1), (2, .ref q_chimesOfFirst), (3, .int x3), (4, .int x4), (5, .int x5)]) : W p l e rX2_goOn s m args below meth c H locs 0 0 (MQ below (gm_Q (dC, dI) [(cI, .int)] A none (wX2_goOn cI q q_chimesOfFirst q_chimesOfSecond q_lasts m_words m_saidAtFirst m_asked out.1 out.2.1 m_chimesOfFirst m_chimesOfSecond out.2.2)) args s 0 0 A) (F0 m 88 ls []) := by
  obtain ⟨hx, hb, hml, hr, hown, hts, hA, hK, hX, hlocks⟩ := id C0
  unfold fX2_goOn_b88 at h
  refine lv_iinc (v := (x5 + 1)) (lv' := [(5, .int (x5 + 1)), (0, .ref q), (1, .int x1), (2, .ref q_chimesOfFirst), (3, .int x3), (4, .int x4)]) hx hb dX2_goOn_88 hl (k := 5) rfl rfl (by decide) rfl (fun ls hl => ?_)
  refine lv_goto (tgt := 18) hx hb dX2_goOn_91 (by decide) ?_
  exact hr18 _ _ _ _ _ _ _ h hH (lv_sub hl [1, 2, 3, 4, 5, 0] rfl)
set_option maxRecDepth 100000 in
set_option maxHeartbeats 4000000 in
theorem tX2_goOn_b18 {p : Program} {l : Launch} {e : Env} {s : State} {m : MethodId} {args : Array Value} {below : List Frame} {meth : Method} {c : Code} {A : Nat → Prop} {dC : Nat → ClassId} {dI : Nat → Nat → Nat} {cI : ClassId} {q q_chimesOfFirst q_chimesOfSecond q_lasts : Nat} {m_words : Int32} {m_saidAtFirst : Int32} {m_asked : Int32} {m_chimesOfFirst : Nat → Int32} {m_chimesOfSecond : Nat → Int32} {m_lasts : Nat → Int32} {x1 : Int32} {x3 : Int32} (C0 : gm_C p s m args meth c (dC, dI) [(cI, .int)] A gm_T RX2 cX2_goOn 7 none wsX2_goOn) {N : Nat} {out : Int32 × Int32 × (Nat → Int32)}   : ∀ (n : Nat), ∀ (m_longest : Int32) (m_shortest : Int32) (x4 : Int32) (x5 : Int32) (H : Heap) (locs : List Loc) (ls : Array Slot), (gm_fix (fX2_goOn_b18_body N  m_words m_chimesOfFirst m_chimesOfSecond m_lasts x1 x3) (fun _ _ _ _ => none) n) m_longest m_shortest x4 x5 = some out → gm_H (dC, dI) A s (wX2_goOn cI q q_chimesOfFirst q_chimesOfSecond q_lasts m_words m_saidAtFirst m_asked m_longest m_shortest m_chimesOfFirst m_chimesOfSecond m_lasts) H locs → lv_has ls 7 [(0, .ref q), (1, .int x1), (2, .ref q_chimesOfFirst), (3, .int x3), (4, .int x4), (5, .int x5)] → W p l e rX2_goOn s m args below meth c H locs 0 0 (MQ below (gm_Q (dC, dI) [(cI, .int)] A none (wX2_goOn cI q q_chimesOfFirst q_chimesOfSecond q_lasts m_words m_saidAtFirst m_asked out.1 out.2.1 m_chimesOfFirst m_chimesOfSecond out.2.2)) args s 0 0 A) (F0 m 18 ls []) := by
  obtain ⟨hx, hb, hml, hr, hown, hts, hA, hK, hX, hlocks⟩ := id C0
  intro n
  induction n with
  | zero =>
    intro m_longest m_shortest x4 x5 H locs ls h hH hl
    cases h
  | succ n hr18 =>
    intro m_longest m_shortest x4 x5 H locs ls h hH hl
    rw [gm_fix_s] at h
    unfold fX2_goOn_b18_body at h
    refine lv_iload hx hb dX2_goOn_18 (lv_at hl 5 rfl) ?_
    refine lv_aload_n hx hb dX2_goOn_20 rfl (lv_at hl 0 rfl) ?_
    refine gm_get (ci := 2) C0 hH inX2_goOn_X2 0 3 1 rfl rfl (by decide) rfl rfl dX2_goOn_21 ?_
    refine lv_icmp_ge (tgt := 94) hx hb dX2_goOn_24 (by decide) (fun hc3 => ?_) (fun hc3 => ?_)
    · replace h := gm_pos hc3 h
      exact tX2_goOn_b94 C0  h hH (lv_sub hl [0, 1, 4] rfl)
    · replace h := gm_neg hc3 h
      refine lv_aload_n hx hb dX2_goOn_27 rfl (lv_at hl 0 rfl) ?_
      refine gm_get (ci := 2) C0 hH inX2_goOn_X2 0 2 2 rfl rfl (by decide) rfl rfl dX2_goOn_28 ?_
      refine lv_iload_n hx hb dX2_goOn_31 rfl (lv_at hl 1 rfl) ?_
      obtain ⟨hi9, h⟩ := gm_chk_e h
      refine gm_iald C0 hH hi9 3 0 rfl rfl dX2_goOn_32 ?_
      refine lv_iload hx hb dX2_goOn_33 (lv_at hl 5 rfl) ?_
      refine lv_ishr hx hb dX2_goOn_35 ?_
      refine lv_iconst (v := 1) hx hb dX2_goOn_36 (by decide) ?_
      refine lv_iand hx hb dX2_goOn_37 ?_
      refine lv_iconst (v := 1) hx hb dX2_goOn_38 (by decide) ?_
      refine lv_icmp_ne (tgt := 88) hx hb dX2_goOn_39 (by decide) (fun hc10 => ?_) (fun hc10 => ?_)
      · replace h := gm_neg hc10 h
        exact tX2_goOn_b88 C0 hr18 h hH (lv_sub hl [0, 1, 2, 3, 4, 5] rfl)
      · replace h := gm_pos hc10 h
        refine lv_aload_n hx hb dX2_goOn_42 rfl (lv_at hl 2 rfl) ?_
        refine lv_iload hx hb dX2_goOn_43 (lv_at hl 5 rfl) ?_
        obtain ⟨hi11, h⟩ := gm_chk_e h
        refine gm_iald C0 hH hi11 1 0 rfl rfl dX2_goOn_45 ?_
        refine lv_iload_n hx hb dX2_goOn_46 rfl (lv_at hl 1 rfl) ?_
        refine lv_iconst (v := (-1)) hx hb dX2_goOn_47 (by decide) ?_
        refine lv_ixor hx hb dX2_goOn_48 ?_
        refine lv_iand hx hb dX2_goOn_49 ?_
        refine lv_topi (fun v12 ev12 => ?_)
        replace h := gm_let_e ev12 h
        refine lv_istore (lv' := [(6, .int v12), (0, .ref q), (1, .int x1), (2, .ref q_chimesOfFirst), (3, .int x3), (4, .int x4), (5, .int x5)]) hx hb dX2_goOn_50 hl (by decide) rfl (fun ls hl => ?_)
        refine lv_iload hx hb dX2_goOn_52 (lv_at hl 5 rfl) ?_
        refine lv_iload hx hb dX2_goOn_54 (lv_at hl 0 rfl) ?_
        refine lv_ior hx hb dX2_goOn_56 ?_
        refine lv_topi (fun v13 ev13 => ?_)
        replace h := gm_let_e ev13 h
        refine lv_istore (lv' := [(4, .int v13), (6, .int v12), (0, .ref q), (1, .int x1), (2, .ref q_chimesOfFirst), (3, .int x3), (5, .int x5)]) hx hb dX2_goOn_57 hl (by decide) rfl (fun ls hl => ?_)
        refine lv_iload hx hb dX2_goOn_59 (lv_at hl 1 rfl) ?_
        refine lv_if_ne (tgt := 88) hx hb dX2_goOn_61 (by decide) (fun hc14 => ?_) (fun hc14 => ?_)
        · replace h := gm_neg hc14 h
          exact tX2_goOn_b88 C0 hr18 h hH (lv_sub hl [2, 3, 4, 5, 0, 6] rfl)
        · replace h := gm_pos hc14 h
          refine lv_aload_n hx hb dX2_goOn_64 rfl (lv_at hl 2 rfl) ?_
          refine lv_aload_n hx hb dX2_goOn_65 rfl (lv_at hl 2 rfl) ?_
          refine gm_get (ci := 2) C0 hH inX2_goOn_X2 0 6 3 rfl rfl (by decide) rfl rfl dX2_goOn_66 ?_
          refine lv_iload_n hx hb dX2_goOn_69 rfl (lv_at hl 5 rfl) ?_
          refine va_mmax hx hb (by rw [hml]; exact hl.1.symm) hown (gm_at C0 4 rfl) (gm_at C0 5 rfl) (gm_at C0 6 rfl) (gm_at C0 7 rfl) (by decide) (Nat.le_of_ble_eq_true rfl) (by decide) (by decide) dX2_goOn_70 ?_
          refine lv_topi (fun v15 ev15 => ?_)
          replace h := gm_let_e ev15 h
          refine gm_putf (ci := 2) C0 hH inX2_goOn_X2 tyX2_ok nmX2 0 6 3 rfl rfl (by decide) rfl rfl rfl rfl rfl (Nat.le_of_ble_eq_true rfl) dX2_goOn_73 (fun H locs hH => ?_)
          have hH : gm_H (dC, dI) A s (wX2_goOn cI q q_chimesOfFirst q_chimesOfSecond q_lasts m_words m_saidAtFirst m_asked v15 m_shortest m_chimesOfFirst m_chimesOfSecond m_lasts) H locs := hH
          refine lv_aload_n hx hb dX2_goOn_76 rfl (lv_at hl 2 rfl) ?_
          refine lv_aload_n hx hb dX2_goOn_77 rfl (lv_at hl 2 rfl) ?_
          refine gm_get (ci := 2) C0 hH inX2_goOn_X2 0 7 8 rfl rfl (by decide) rfl rfl dX2_goOn_78 ?_
          refine lv_iload_n hx hb dX2_goOn_81 rfl (lv_at hl 5 rfl) ?_
          refine va_mmin hx hb (by rw [hml]; exact hl.1.symm) hown (gm_at C0 9 rfl) (gm_at C0 10 rfl) (gm_at C0 6 rfl) (gm_at C0 11 rfl) (by decide) (Nat.le_of_ble_eq_true rfl) (by decide) (by decide) dX2_goOn_82 ?_
          refine lv_topi (fun v16 ev16 => ?_)
          replace h := gm_let_e ev16 h
          refine gm_putf (ci := 2) C0 hH inX2_goOn_X2 tyX2_ok nmX2 0 7 8 rfl rfl (by decide) rfl rfl rfl rfl rfl (Nat.le_of_ble_eq_true rfl) dX2_goOn_85 (fun H locs hH => ?_)
          have hH : gm_H (dC, dI) A s (wX2_goOn cI q q_chimesOfFirst q_chimesOfSecond q_lasts m_words m_saidAtFirst m_asked v15 v16 m_chimesOfFirst m_chimesOfSecond m_lasts) H locs := hH
          exact tX2_goOn_b88 C0 hr18 h hH (lv_sub hl [2, 3, 4, 5, 0, 6] rfl)
set_option maxRecDepth 100000 in
set_option maxHeartbeats 4000000 in
theorem tX2_goOn_b88x {p : Program} {l : Launch} {e : Env} {s : State} {m : MethodId} {args : Array Value} {below : List Frame} {meth : Method} {c : Code} {A : Nat → Prop} {dC : Nat → ClassId} {dI : Nat → Nat → Nat} {cI : ClassId} {q q_chimesOfFirst q_chimesOfSecond q_lasts : Nat} {m_words : Int32} {m_saidAtFirst : Int32} {m_asked : Int32} {m_longest : Int32} {m_shortest : Int32} {m_chimesOfFirst : Nat → Int32} {m_chimesOfSecond : Nat → Int32} {m_lasts : Nat → Int32} {x1 : Int32} {x3 : Int32} {x4 : Int32} {x5 : Int32} (C0 : gm_C p s m args meth c (dC, dI) [(cI, .int)] A gm_T RX2 cX2_goOn 7 none wsX2_goOn) {N : Nat} {out : Int32 × Int32 × (Nat → Int32)} {r18 : Int32 → Int32 → Int32 → Int32 → Option (Int32 × Int32 × (Nat → Int32))} (hr18 : ∀ (m_longest : Int32) (m_shortest : Int32) (x4 : Int32) (x5 : Int32) (H : Heap) (locs : List Loc) (ls : Array Slot), r18 m_longest m_shortest x4 x5 = some out → gm_H (dC, dI) A s (wX2_goOn cI q q_chimesOfFirst q_chimesOfSecond q_lasts m_words m_saidAtFirst m_asked m_longest m_shortest m_chimesOfFirst m_chimesOfSecond m_lasts) H locs → lv_has ls 7 [(0, .ref q), (1, .int x1), (2, .ref q_chimesOfSecond), (3, .int x3), (4, .int x4), (5, .int x5)] → W p l e rX2_goOn s m args below meth c H locs 0 0 (MQ below (gm_Q (dC, dI) [(cI, .int)] A none (wX2_goOn cI q q_chimesOfFirst q_chimesOfSecond q_lasts m_words m_saidAtFirst m_asked out.1 out.2.1 m_chimesOfFirst m_chimesOfSecond out.2.2)) args s 0 0 A) (F0 m 18 ls []))   {H : Heap} {locs : List Loc} {ls : Array Slot} (h : fX2_goOn_b88x N r18 m_words m_longest m_shortest m_chimesOfFirst m_chimesOfSecond m_lasts x1 x3 x4 x5 = some out) (hH : gm_H (dC, dI) A s (wX2_goOn cI q q_chimesOfFirst q_chimesOfSecond q_lasts m_words m_saidAtFirst m_asked m_longest m_shortest m_chimesOfFirst m_chimesOfSecond m_lasts) H locs) (hl : lv_has ls 7 [(0, .ref q), (1, .int x1), (2, .ref q_chimesOfSecond), (3, .int x3), (4, .int x4), (5, .int x5)]) : W p l e rX2_goOn s m args below meth c H locs 0 0 (MQ below (gm_Q (dC, dI) [(cI, .int)] A none (wX2_goOn cI q q_chimesOfFirst q_chimesOfSecond q_lasts m_words m_saidAtFirst m_asked out.1 out.2.1 m_chimesOfFirst m_chimesOfSecond out.2.2)) args s 0 0 A) (F0 m 88 ls []) := by
  obtain ⟨hx, hb, hml, hr, hown, hts, hA, hK, hX, hlocks⟩ := id C0
  unfold fX2_goOn_b88x at h
  refine lv_iinc (v := (x5 + 1)) (lv' := [(5, .int (x5 + 1)), (0, .ref q), (1, .int x1), (2, .ref q_chimesOfSecond), (3, .int x3), (4, .int x4)]) hx hb dX2_goOn_88 hl (k := 5) rfl rfl (by decide) rfl (fun ls hl => ?_)
  refine lv_goto (tgt := 18) hx hb dX2_goOn_91 (by decide) ?_
  exact hr18 _ _ _ _ _ _ _ h hH (lv_sub hl [1, 2, 3, 4, 5, 0] rfl)
set_option maxRecDepth 100000 in
set_option maxHeartbeats 4000000 in
theorem tX2_goOn_b18x {p : Program} {l : Launch} {e : Env} {s : State} {m : MethodId} {args : Array Value} {below : List Frame} {meth : Method} {c : Code} {A : Nat → Prop} {dC : Nat → ClassId} {dI : Nat → Nat → Nat} {cI : ClassId} {q q_chimesOfFirst q_chimesOfSecond q_lasts : Nat} {m_words : Int32} {m_saidAtFirst : Int32} {m_asked : Int32} {m_chimesOfFirst : Nat → Int32} {m_chimesOfSecond : Nat → Int32} {m_lasts : Nat → Int32} {x1 : Int32} {x3 : Int32} (C0 : gm_C p s m args meth c (dC, dI) [(cI, .int)] A gm_T RX2 cX2_goOn 7 none wsX2_goOn) {N : Nat} {out : Int32 × Int32 × (Nat → Int32)}   : ∀ (n : Nat), ∀ (m_longest : Int32) (m_shortest : Int32) (x4 : Int32) (x5 : Int32) (H : Heap) (locs : List Loc) (ls : Array Slot), (gm_fix (fX2_goOn_b18x_body N  m_words m_chimesOfFirst m_chimesOfSecond m_lasts x1 x3) (fun _ _ _ _ => none) n) m_longest m_shortest x4 x5 = some out → gm_H (dC, dI) A s (wX2_goOn cI q q_chimesOfFirst q_chimesOfSecond q_lasts m_words m_saidAtFirst m_asked m_longest m_shortest m_chimesOfFirst m_chimesOfSecond m_lasts) H locs → lv_has ls 7 [(0, .ref q), (1, .int x1), (2, .ref q_chimesOfSecond), (3, .int x3), (4, .int x4), (5, .int x5)] → W p l e rX2_goOn s m args below meth c H locs 0 0 (MQ below (gm_Q (dC, dI) [(cI, .int)] A none (wX2_goOn cI q q_chimesOfFirst q_chimesOfSecond q_lasts m_words m_saidAtFirst m_asked out.1 out.2.1 m_chimesOfFirst m_chimesOfSecond out.2.2)) args s 0 0 A) (F0 m 18 ls []) := by
  obtain ⟨hx, hb, hml, hr, hown, hts, hA, hK, hX, hlocks⟩ := id C0
  intro n
  induction n with
  | zero =>
    intro m_longest m_shortest x4 x5 H locs ls h hH hl
    cases h
  | succ n hr18 =>
    intro m_longest m_shortest x4 x5 H locs ls h hH hl
    rw [gm_fix_s] at h
    unfold fX2_goOn_b18x_body at h
    refine lv_iload hx hb dX2_goOn_18 (lv_at hl 5 rfl) ?_
    refine lv_aload_n hx hb dX2_goOn_20 rfl (lv_at hl 0 rfl) ?_
    refine gm_get (ci := 2) C0 hH inX2_goOn_X2 0 3 1 rfl rfl (by decide) rfl rfl dX2_goOn_21 ?_
    refine lv_icmp_ge (tgt := 94) hx hb dX2_goOn_24 (by decide) (fun hc18 => ?_) (fun hc18 => ?_)
    · replace h := gm_pos hc18 h
      exact tX2_goOn_b94 C0  h hH (lv_sub hl [0, 1, 4] rfl)
    · replace h := gm_neg hc18 h
      refine lv_aload_n hx hb dX2_goOn_27 rfl (lv_at hl 0 rfl) ?_
      refine gm_get (ci := 2) C0 hH inX2_goOn_X2 0 2 2 rfl rfl (by decide) rfl rfl dX2_goOn_28 ?_
      refine lv_iload_n hx hb dX2_goOn_31 rfl (lv_at hl 1 rfl) ?_
      obtain ⟨hi19, h⟩ := gm_chk_e h
      refine gm_iald C0 hH hi19 3 0 rfl rfl dX2_goOn_32 ?_
      refine lv_iload hx hb dX2_goOn_33 (lv_at hl 5 rfl) ?_
      refine lv_ishr hx hb dX2_goOn_35 ?_
      refine lv_iconst (v := 1) hx hb dX2_goOn_36 (by decide) ?_
      refine lv_iand hx hb dX2_goOn_37 ?_
      refine lv_iconst (v := 1) hx hb dX2_goOn_38 (by decide) ?_
      refine lv_icmp_ne (tgt := 88) hx hb dX2_goOn_39 (by decide) (fun hc20 => ?_) (fun hc20 => ?_)
      · replace h := gm_neg hc20 h
        exact tX2_goOn_b88x C0 hr18 h hH (lv_sub hl [0, 1, 2, 3, 4, 5] rfl)
      · replace h := gm_pos hc20 h
        refine lv_aload_n hx hb dX2_goOn_42 rfl (lv_at hl 2 rfl) ?_
        refine lv_iload hx hb dX2_goOn_43 (lv_at hl 5 rfl) ?_
        obtain ⟨hi21, h⟩ := gm_chk_e h
        refine gm_iald C0 hH hi21 2 0 rfl rfl dX2_goOn_45 ?_
        refine lv_iload_n hx hb dX2_goOn_46 rfl (lv_at hl 1 rfl) ?_
        refine lv_iconst (v := (-1)) hx hb dX2_goOn_47 (by decide) ?_
        refine lv_ixor hx hb dX2_goOn_48 ?_
        refine lv_iand hx hb dX2_goOn_49 ?_
        refine lv_topi (fun v22 ev22 => ?_)
        replace h := gm_let_e ev22 h
        refine lv_istore (lv' := [(6, .int v22), (0, .ref q), (1, .int x1), (2, .ref q_chimesOfSecond), (3, .int x3), (4, .int x4), (5, .int x5)]) hx hb dX2_goOn_50 hl (by decide) rfl (fun ls hl => ?_)
        refine lv_iload hx hb dX2_goOn_52 (lv_at hl 5 rfl) ?_
        refine lv_iload hx hb dX2_goOn_54 (lv_at hl 0 rfl) ?_
        refine lv_ior hx hb dX2_goOn_56 ?_
        refine lv_topi (fun v23 ev23 => ?_)
        replace h := gm_let_e ev23 h
        refine lv_istore (lv' := [(4, .int v23), (6, .int v22), (0, .ref q), (1, .int x1), (2, .ref q_chimesOfSecond), (3, .int x3), (5, .int x5)]) hx hb dX2_goOn_57 hl (by decide) rfl (fun ls hl => ?_)
        refine lv_iload hx hb dX2_goOn_59 (lv_at hl 1 rfl) ?_
        refine lv_if_ne (tgt := 88) hx hb dX2_goOn_61 (by decide) (fun hc24 => ?_) (fun hc24 => ?_)
        · replace h := gm_neg hc24 h
          exact tX2_goOn_b88x C0 hr18 h hH (lv_sub hl [2, 3, 4, 5, 0, 6] rfl)
        · replace h := gm_pos hc24 h
          refine lv_aload_n hx hb dX2_goOn_64 rfl (lv_at hl 2 rfl) ?_
          refine lv_aload_n hx hb dX2_goOn_65 rfl (lv_at hl 2 rfl) ?_
          refine gm_get (ci := 2) C0 hH inX2_goOn_X2 0 6 3 rfl rfl (by decide) rfl rfl dX2_goOn_66 ?_
          refine lv_iload_n hx hb dX2_goOn_69 rfl (lv_at hl 5 rfl) ?_
          refine va_mmax hx hb (by rw [hml]; exact hl.1.symm) hown (gm_at C0 4 rfl) (gm_at C0 5 rfl) (gm_at C0 6 rfl) (gm_at C0 7 rfl) (by decide) (Nat.le_of_ble_eq_true rfl) (by decide) (by decide) dX2_goOn_70 ?_
          refine lv_topi (fun v25 ev25 => ?_)
          replace h := gm_let_e ev25 h
          refine gm_putf (ci := 2) C0 hH inX2_goOn_X2 tyX2_ok nmX2 0 6 3 rfl rfl (by decide) rfl rfl rfl rfl rfl (Nat.le_of_ble_eq_true rfl) dX2_goOn_73 (fun H locs hH => ?_)
          have hH : gm_H (dC, dI) A s (wX2_goOn cI q q_chimesOfFirst q_chimesOfSecond q_lasts m_words m_saidAtFirst m_asked v25 m_shortest m_chimesOfFirst m_chimesOfSecond m_lasts) H locs := hH
          refine lv_aload_n hx hb dX2_goOn_76 rfl (lv_at hl 2 rfl) ?_
          refine lv_aload_n hx hb dX2_goOn_77 rfl (lv_at hl 2 rfl) ?_
          refine gm_get (ci := 2) C0 hH inX2_goOn_X2 0 7 8 rfl rfl (by decide) rfl rfl dX2_goOn_78 ?_
          refine lv_iload_n hx hb dX2_goOn_81 rfl (lv_at hl 5 rfl) ?_
          refine va_mmin hx hb (by rw [hml]; exact hl.1.symm) hown (gm_at C0 9 rfl) (gm_at C0 10 rfl) (gm_at C0 6 rfl) (gm_at C0 11 rfl) (by decide) (Nat.le_of_ble_eq_true rfl) (by decide) (by decide) dX2_goOn_82 ?_
          refine lv_topi (fun v26 ev26 => ?_)
          replace h := gm_let_e ev26 h
          refine gm_putf (ci := 2) C0 hH inX2_goOn_X2 tyX2_ok nmX2 0 7 8 rfl rfl (by decide) rfl rfl rfl rfl rfl (Nat.le_of_ble_eq_true rfl) dX2_goOn_85 (fun H locs hH => ?_)
          have hH : gm_H (dC, dI) A s (wX2_goOn cI q q_chimesOfFirst q_chimesOfSecond q_lasts m_words m_saidAtFirst m_asked v25 v26 m_chimesOfFirst m_chimesOfSecond m_lasts) H locs := hH
          exact tX2_goOn_b88x C0 hr18 h hH (lv_sub hl [2, 3, 4, 5, 0, 6] rfl)
set_option maxRecDepth 100000 in
set_option maxHeartbeats 4000000 in
theorem mX2_goOn (l : Launch) (dC : Nat → ClassId) (dI : Nat → Nat → Nat) (cI : ClassId) (q q_chimesOfFirst q_chimesOfSecond q_lasts : Nat) (m_words : Int32) (m_saidAtFirst : Int32) (m_asked : Int32) (m_longest : Int32) (m_shortest : Int32) (m_chimesOfFirst : Nat → Int32) (m_chimesOfSecond : Nat → Int32) (m_lasts : Nat → Int32) (x1 : Int32)  {N : Nat} {out : Int32 × Int32 × (Nat → Int32)} (h : fX2_goOn N m_words m_saidAtFirst m_longest m_shortest m_chimesOfFirst m_chimesOfSecond m_lasts x1 = some out) : gm_Met l yX2_goOn wsX2_goOn rX2_goOn (dC, dI) [(cI, .int)] gm_T [.ref q, .int x1] (wX2_goOn cI q q_chimesOfFirst q_chimesOfSecond q_lasts m_words m_saidAtFirst m_asked m_longest m_shortest m_chimesOfFirst m_chimesOfSecond m_lasts) none (wX2_goOn cI q q_chimesOfFirst q_chimesOfSecond q_lasts m_words m_saidAtFirst m_asked out.1 out.2.1 m_chimesOfFirst m_chimesOfSecond out.2.2) := by
  refine gm_ofW (cc := cX2_goOn) (maxL := 7) (ret := none) (by decide +kernel) rfl (Nat.le_of_ble_eq_true rfl) ?_
  intro p e s m below meth c A C0 hH ls hl
  generalize ([.ref q, .int x1] : List Value).toArray = args at C0 ⊢
  have hl : lv_has ls 7 [(0, .ref q), (1, .int x1)] := hl
  generalize s.heap = H at hH ⊢
  generalize ([] : List Loc) = locs at hH ⊢
  obtain ⟨hx, hb, hml, hr, hown, hts, hA, hK, hX, hlocks⟩ := id C0
  unfold fX2_goOn at h
  refine lv_aload_n hx hb dX2_goOn_0 rfl (lv_at hl 0 rfl) ?_
  refine lv_iload_n hx hb dX2_goOn_1 rfl (lv_at hl 1 rfl) ?_
  obtain ⟨o1, ho1, h⟩ := gm_bind_e h
  refine gm_callV (As := [.int x1]) (rest := []) (n := 1) (ci := 2) (q0 := 0) C0 hH (mX2_chimesOfNext l dC dI  q q_chimesOfFirst q_chimesOfSecond q_lasts m_words m_saidAtFirst m_asked m_longest m_shortest x1   ho1) gX2_goOn_X2_chimesOfNext rfl (by decide +kernel) ⟨rfl, rfl, Nat.le_of_ble_eq_true rfl, Nat.le_of_ble_eq_true rfl⟩ gm_T_ok (fun _ => trivial) [0] rfl rfl rfl [] rfl rfl rfl rfl hl.1 rfl (Nat.le_of_ble_eq_true rfl) dX2_goOn_2 ⟨Nat.zero_le _, Nat.zero_le _⟩ (fun H locs hH => ?_)
  have hH : gm_H (dC, dI) A s (wX2_goOn cI q q_chimesOfFirst q_chimesOfSecond q_lasts m_words m_saidAtFirst m_asked m_longest m_shortest m_chimesOfFirst m_chimesOfSecond m_lasts) H locs := hH
  by_cases hs1 : o1 = 0
  · replace h := gm_pos hs1 h
    refine W.eq (g2 := F0 m 5 ls [.ref q_chimesOfFirst]) (by simp only [if_pos hs1]; rfl) ?_
    refine lv_astore_n (lv' := [(2, .ref q_chimesOfFirst), (0, .ref q), (1, .int x1)]) hx hb dX2_goOn_5 rfl hl (by decide) rfl (fun ls hl => ?_)
    refine lv_aload_n hx hb dX2_goOn_6 rfl (lv_at hl 1 rfl) ?_
    refine lv_iload_n hx hb dX2_goOn_7 rfl (lv_at hl 2 rfl) ?_
    obtain ⟨o2, ho2, h⟩ := gm_bind_e h
    refine gm_callV (As := [.int x1]) (rest := []) (n := 1) (ci := 2) (q0 := 0) C0 hH (mX2_answered l dC dI  q q_chimesOfFirst q_chimesOfSecond q_lasts m_words m_saidAtFirst m_asked m_longest m_shortest x1   ho2) gX2_goOn_X2_answered rfl (by decide +kernel) ⟨rfl, rfl, Nat.le_of_ble_eq_true rfl, Nat.le_of_ble_eq_true rfl⟩ gm_T_ok (fun _ => trivial) [0] rfl rfl rfl [] rfl rfl rfl rfl hl.1 rfl (Nat.le_of_ble_eq_true rfl) dX2_goOn_8 ⟨Nat.zero_le _, Nat.zero_le _⟩ (fun H locs hH => ?_)
    have hH : gm_H (dC, dI) A s (wX2_goOn cI q q_chimesOfFirst q_chimesOfSecond q_lasts m_words m_saidAtFirst m_asked m_longest m_shortest m_chimesOfFirst m_chimesOfSecond m_lasts) H locs := hH
    refine lv_istore_n (lv' := [(3, .int o2), (2, .ref q_chimesOfFirst), (0, .ref q), (1, .int x1)]) hx hb dX2_goOn_11 rfl hl (by decide) rfl (fun ls hl => ?_)
    refine lv_iconst (v := 0) hx hb dX2_goOn_12 (by decide) ?_
    refine lv_istore (lv' := [(4, .int 0), (3, .int o2), (2, .ref q_chimesOfFirst), (0, .ref q), (1, .int x1)]) hx hb dX2_goOn_13 hl (by decide) rfl (fun ls hl => ?_)
    refine lv_iconst (v := 0) hx hb dX2_goOn_15 (by decide) ?_
    refine lv_istore (lv' := [(5, .int 0), (4, .int 0), (3, .int o2), (2, .ref q_chimesOfFirst), (0, .ref q), (1, .int x1)]) hx hb dX2_goOn_16 hl (by decide) rfl (fun ls hl => ?_)
    unfold fX2_goOn_b18 at h
    exact tX2_goOn_b18 C0  _ _ _ _ _ _ _ _ h hH (lv_sub hl [4, 5, 3, 2, 1, 0] rfl)
  · replace h := gm_neg hs1 h
    refine W.eq (g2 := F0 m 5 ls [.ref q_chimesOfSecond]) (by simp only [if_neg hs1]; rfl) ?_
    refine lv_astore_n (lv' := [(2, .ref q_chimesOfSecond), (0, .ref q), (1, .int x1)]) hx hb dX2_goOn_5 rfl hl (by decide) rfl (fun ls hl => ?_)
    refine lv_aload_n hx hb dX2_goOn_6 rfl (lv_at hl 1 rfl) ?_
    refine lv_iload_n hx hb dX2_goOn_7 rfl (lv_at hl 2 rfl) ?_
    obtain ⟨o17, ho17, h⟩ := gm_bind_e h
    refine gm_callV (As := [.int x1]) (rest := []) (n := 1) (ci := 2) (q0 := 0) C0 hH (mX2_answered l dC dI  q q_chimesOfFirst q_chimesOfSecond q_lasts m_words m_saidAtFirst m_asked m_longest m_shortest x1   ho17) gX2_goOn_X2_answered rfl (by decide +kernel) ⟨rfl, rfl, Nat.le_of_ble_eq_true rfl, Nat.le_of_ble_eq_true rfl⟩ gm_T_ok (fun _ => trivial) [0] rfl rfl rfl [] rfl rfl rfl rfl hl.1 rfl (Nat.le_of_ble_eq_true rfl) dX2_goOn_8 ⟨Nat.zero_le _, Nat.zero_le _⟩ (fun H locs hH => ?_)
    have hH : gm_H (dC, dI) A s (wX2_goOn cI q q_chimesOfFirst q_chimesOfSecond q_lasts m_words m_saidAtFirst m_asked m_longest m_shortest m_chimesOfFirst m_chimesOfSecond m_lasts) H locs := hH
    refine lv_istore_n (lv' := [(3, .int o17), (2, .ref q_chimesOfSecond), (0, .ref q), (1, .int x1)]) hx hb dX2_goOn_11 rfl hl (by decide) rfl (fun ls hl => ?_)
    refine lv_iconst (v := 0) hx hb dX2_goOn_12 (by decide) ?_
    refine lv_istore (lv' := [(4, .int 0), (3, .int o17), (2, .ref q_chimesOfSecond), (0, .ref q), (1, .int x1)]) hx hb dX2_goOn_13 hl (by decide) rfl (fun ls hl => ?_)
    refine lv_iconst (v := 0) hx hb dX2_goOn_15 (by decide) ?_
    refine lv_istore (lv' := [(5, .int 0), (4, .int 0), (3, .int o17), (2, .ref q_chimesOfSecond), (0, .ref q), (1, .int x1)]) hx hb dX2_goOn_16 hl (by decide) rfl (fun ls hl => ?_)
    unfold fX2_goOn_b18x at h
    exact tX2_goOn_b18x C0  _ _ _ _ _ _ _ _ h hH (lv_sub hl [4, 5, 3, 2, 1, 0] rfl)

/-! X2_findEnds -/
abbrev wX2_findEnds (cI : ClassId) (q q_chimesOfFirst q_chimesOfSecond q_lasts : Nat) (m_words : Int32) (m_saidAtFirst : Int32) (m_asked : Int32) (m_longest : Int32) (m_shortest : Int32) (m_chimesOfFirst : Nat → Int32) (m_chimesOfSecond : Nat → Int32) (m_lasts : Nat → Int32) : va_W := [(q, .inr (2, [.ref q_chimesOfFirst, .ref q_chimesOfSecond, .ref q_lasts, .int m_words, .int m_saidAtFirst, .int m_asked, .int m_longest, .int m_shortest])), (q_chimesOfFirst, .inl (cI, 10, .inl m_chimesOfFirst)), (q_chimesOfSecond, .inl (cI, 10, .inl m_chimesOfSecond)), (q_lasts, .inl (cI, 1024, .inl m_lasts))]
abbrev rX2_findEnds : Room := { frames := 4, cells := 0, slots := 0, locals := 88 }
def fX2_findEnds_b80 (N : Nat) (r56 : Int32 → Int32 → (Nat → Int32) → Int32 → Option (Int32 × Int32 × (Nat → Int32))) (m_words : Int32) (m_saidAtFirst : Int32) (m_longest : Int32) (m_shortest : Int32) (m_chimesOfFirst : Nat → Int32) (m_chimesOfSecond : Nat → Int32) (m_lasts : Nat → Int32) (x1 : Int32) : Option (Int32 × Int32 × (Nat → Int32)) := (r56 m_longest m_shortest m_lasts ((x1 + 1)))
def fX2_findEnds_b56_body (N : Nat)  (m_words : Int32) (m_saidAtFirst : Int32) (m_chimesOfFirst : Nat → Int32) (m_chimesOfSecond : Nat → Int32) (r56 : Int32 → Int32 → (Nat → Int32) → Int32 → Option (Int32 × Int32 × (Nat → Int32))) (m_longest : Int32) (m_shortest : Int32) (m_lasts : Nat → Int32) (x1 : Int32) : Option (Int32 × Int32 × (Nat → Int32)) := (if ((1 : Int32) <<< (m_words &&& 31)) ≤ x1 then some (m_longest, m_shortest, m_lasts) else gm_chk x1 1024 ((if (m_lasts (Int32.toNatClampNeg x1)) = 0 then (fX2_findEnds_b80 N r56 m_words m_saidAtFirst m_longest m_shortest m_chimesOfFirst m_chimesOfSecond m_lasts x1) else gm_bind (fX2_goOn N m_words m_saidAtFirst m_longest m_shortest m_chimesOfFirst m_chimesOfSecond m_lasts x1) (fun o6 => (fX2_findEnds_b80 N r56 m_words m_saidAtFirst o6.1 o6.2.1 m_chimesOfFirst m_chimesOfSecond o6.2.2 x1)))))
def fX2_findEnds_b56 (N : Nat)  (m_words : Int32) (m_saidAtFirst : Int32) (m_chimesOfFirst : Nat → Int32) (m_chimesOfSecond : Nat → Int32) (m_longest : Int32) (m_shortest : Int32) (m_lasts : Nat → Int32) (x1 : Int32) : Option (Int32 × Int32 × (Nat → Int32)) := gm_fix (fX2_findEnds_b56_body N  m_words m_saidAtFirst m_chimesOfFirst m_chimesOfSecond) (fun _ _ _ _ => none) N m_longest m_shortest m_lasts x1
def fX2_findEnds_b25 (N : Nat)  (m_words : Int32) (m_saidAtFirst : Int32) (m_asked : Int32) (m_longest : Int32) (m_shortest : Int32) (m_chimesOfFirst : Nat → Int32) (m_chimesOfSecond : Nat → Int32) (m_lasts : Nat → Int32) : Option (Int32 × Int32 × (Nat → Int32)) := gm_chk m_saidAtFirst 1024 ((fX2_findEnds_b56 N  m_words m_saidAtFirst m_chimesOfFirst m_chimesOfSecond 0 10 (upd m_lasts (Int32.toNatClampNeg m_saidAtFirst) (((1 : Int32) <<< (m_asked &&& 31)))) m_saidAtFirst))
def fX2_findEnds_b2_body (N : Nat)  (m_words : Int32) (m_saidAtFirst : Int32) (m_asked : Int32) (m_longest : Int32) (m_shortest : Int32) (m_chimesOfFirst : Nat → Int32) (m_chimesOfSecond : Nat → Int32) (r2 : (Nat → Int32) → Int32 → Option (Int32 × Int32 × (Nat → Int32))) (m_lasts : Nat → Int32) (x1 : Int32) : Option (Int32 × Int32 × (Nat → Int32)) := (if ((1 : Int32) <<< (m_words &&& 31)) ≤ x1 then (fX2_findEnds_b25 N  m_words m_saidAtFirst m_asked m_longest m_shortest m_chimesOfFirst m_chimesOfSecond m_lasts) else gm_chk x1 1024 ((r2 (upd m_lasts (Int32.toNatClampNeg x1) 0) ((x1 + 1)))))
def fX2_findEnds_b2 (N : Nat)  (m_words : Int32) (m_saidAtFirst : Int32) (m_asked : Int32) (m_longest : Int32) (m_shortest : Int32) (m_chimesOfFirst : Nat → Int32) (m_chimesOfSecond : Nat → Int32) (m_lasts : Nat → Int32) (x1 : Int32) : Option (Int32 × Int32 × (Nat → Int32)) := gm_fix (fX2_findEnds_b2_body N  m_words m_saidAtFirst m_asked m_longest m_shortest m_chimesOfFirst m_chimesOfSecond) (fun _ _ => none) N m_lasts x1
def fX2_findEnds (N : Nat) (m_words : Int32) (m_saidAtFirst : Int32) (m_asked : Int32) (m_longest : Int32) (m_shortest : Int32) (m_chimesOfFirst : Nat → Int32) (m_chimesOfSecond : Nat → Int32) (m_lasts : Nat → Int32)  : Option (Int32 × Int32 × (Nat → Int32)) := (fX2_findEnds_b2 N  m_words m_saidAtFirst m_asked m_longest m_shortest m_chimesOfFirst m_chimesOfSecond m_lasts 0)
set_option maxRecDepth 20000 in
theorem inX2_findEnds_X2 : ∀ w ∈ u_ws RX2 TX2 8, w ∈ wsX2_findEnds := fun w h => by
  obtain ⟨k, hk, rfl⟩ := List.mem_map.mp h
  have hk2 := List.mem_range.mp hk
  exact List.mem_of_getElem? (i := 36 + k) (by rcases (show k = 0 ∨ k = 1 ∨ k = 2 ∨ k = 3 ∨ k = 4 ∨ k = 5 ∨ k = 6 ∨ k = 7 by omega) with rfl | rfl | rfl | rfl | rfl | rfl | rfl | rfl <;> rfl)
set_option maxRecDepth 100000 in
set_option maxHeartbeats 4000000 in
theorem tX2_findEnds_b80 {p : Program} {l : Launch} {e : Env} {s : State} {m : MethodId} {args : Array Value} {below : List Frame} {meth : Method} {c : Code} {A : Nat → Prop} {dC : Nat → ClassId} {dI : Nat → Nat → Nat} {cI : ClassId} {q q_chimesOfFirst q_chimesOfSecond q_lasts : Nat} {m_words : Int32} {m_saidAtFirst : Int32} {m_asked : Int32} {m_longest : Int32} {m_shortest : Int32} {m_chimesOfFirst : Nat → Int32} {m_chimesOfSecond : Nat → Int32} {m_lasts : Nat → Int32} {x1 : Int32} (C0 : gm_C p s m args meth c (dC, dI) [(cI, .int)] A gm_T RX2 cX2_findEnds 2 none wsX2_findEnds) {N : Nat} {out : Int32 × Int32 × (Nat → Int32)} {r56 : Int32 → Int32 → (Nat → Int32) → Int32 → Option (Int32 × Int32 × (Nat → Int32))} (hr56 : ∀ (m_longest : Int32) (m_shortest : Int32) (m_lasts : Nat → Int32) (x1 : Int32) (H : Heap) (locs : List Loc) (ls : Array Slot), r56 m_longest m_shortest m_lasts x1 = some out → gm_H (dC, dI) A s (wX2_findEnds cI q q_chimesOfFirst q_chimesOfSecond q_lasts m_words m_saidAtFirst m_asked m_longest m_shortest m_chimesOfFirst m_chimesOfSecond m_lasts) H locs → lv_has ls 2 [(0, .ref q), (1, .int x1)] → W p l e rX2_findEnds s m args below meth c H locs 0 0 (MQ below (gm_Q (dC, dI) [(cI, .int)] A none (wX2_findEnds cI q q_chimesOfFirst q_chimesOfSecond q_lasts m_words m_saidAtFirst m_asked out.1 out.2.1 m_chimesOfFirst m_chimesOfSecond out.2.2)) args s 0 0 A) (F0 m 56 ls []))   {H : Heap} {locs : List Loc} {ls : Array Slot} (h : fX2_findEnds_b80 N r56 m_words m_saidAtFirst m_longest m_shortest m_chimesOfFirst m_chimesOfSecond m_lasts x1 = some out) (hH : gm_H (dC, dI) A s (wX2_findEnds cI q q_chimesOfFirst q_chimesOfSecond q_lasts m_words m_saidAtFirst m_asked m_longest m_shortest m_chimesOfFirst m_chimesOfSecond m_lasts) H locs) (hl : lv_has ls 2 [(0, .ref q), (1, .int x1)]) : W p l e rX2_findEnds s m args below meth c H locs 0 0 (MQ below (gm_Q (dC, dI) [(cI, .int)] A none (wX2_findEnds cI q q_chimesOfFirst q_chimesOfSecond q_lasts m_words m_saidAtFirst m_asked out.1 out.2.1 m_chimesOfFirst m_chimesOfSecond out.2.2)) args s 0 0 A) (F0 m 80 ls []) := by
  obtain ⟨hx, hb, hml, hr, hown, hts, hA, hK, hX, hlocks⟩ := id C0
  unfold fX2_findEnds_b80 at h
  refine lv_iinc (v := (x1 + 1)) (lv' := [(1, .int (x1 + 1)), (0, .ref q)]) hx hb dX2_findEnds_80 hl (k := 1) rfl rfl (by decide) rfl (fun ls hl => ?_)
  refine lv_goto (tgt := 56) hx hb dX2_findEnds_83 (by decide) ?_
  exact hr56 _ _ _ _ _ _ _ h hH (lv_sub hl [1, 0] rfl)
set_option maxRecDepth 100000 in
set_option maxHeartbeats 4000000 in
theorem tX2_findEnds_b56 {p : Program} {l : Launch} {e : Env} {s : State} {m : MethodId} {args : Array Value} {below : List Frame} {meth : Method} {c : Code} {A : Nat → Prop} {dC : Nat → ClassId} {dI : Nat → Nat → Nat} {cI : ClassId} {q q_chimesOfFirst q_chimesOfSecond q_lasts : Nat} {m_words : Int32} {m_saidAtFirst : Int32} {m_asked : Int32} {m_chimesOfFirst : Nat → Int32} {m_chimesOfSecond : Nat → Int32} (C0 : gm_C p s m args meth c (dC, dI) [(cI, .int)] A gm_T RX2 cX2_findEnds 2 none wsX2_findEnds) {N : Nat} {out : Int32 × Int32 × (Nat → Int32)}   : ∀ (n : Nat), ∀ (m_longest : Int32) (m_shortest : Int32) (m_lasts : Nat → Int32) (x1 : Int32) (H : Heap) (locs : List Loc) (ls : Array Slot), (gm_fix (fX2_findEnds_b56_body N  m_words m_saidAtFirst m_chimesOfFirst m_chimesOfSecond) (fun _ _ _ _ => none) n) m_longest m_shortest m_lasts x1 = some out → gm_H (dC, dI) A s (wX2_findEnds cI q q_chimesOfFirst q_chimesOfSecond q_lasts m_words m_saidAtFirst m_asked m_longest m_shortest m_chimesOfFirst m_chimesOfSecond m_lasts) H locs → lv_has ls 2 [(0, .ref q), (1, .int x1)] → W p l e rX2_findEnds s m args below meth c H locs 0 0 (MQ below (gm_Q (dC, dI) [(cI, .int)] A none (wX2_findEnds cI q q_chimesOfFirst q_chimesOfSecond q_lasts m_words m_saidAtFirst m_asked out.1 out.2.1 m_chimesOfFirst m_chimesOfSecond out.2.2)) args s 0 0 A) (F0 m 56 ls []) := by
  obtain ⟨hx, hb, hml, hr, hown, hts, hA, hK, hX, hlocks⟩ := id C0
  intro n
  induction n with
  | zero =>
    intro m_longest m_shortest m_lasts x1 H locs ls h hH hl
    cases h
  | succ n hr56 =>
    intro m_longest m_shortest m_lasts x1 H locs ls h hH hl
    rw [gm_fix_s] at h
    unfold fX2_findEnds_b56_body at h
    refine lv_iload_n hx hb dX2_findEnds_56 rfl (lv_at hl 1 rfl) ?_
    refine lv_iconst (v := 1) hx hb dX2_findEnds_57 (by decide) ?_
    refine lv_aload_n hx hb dX2_findEnds_58 rfl (lv_at hl 0 rfl) ?_
    refine gm_get (ci := 2) C0 hH inX2_findEnds_X2 0 3 1 rfl rfl (by decide) rfl rfl dX2_findEnds_59 ?_
    refine lv_ishl hx hb dX2_findEnds_62 ?_
    refine lv_icmp_ge (tgt := 86) hx hb dX2_findEnds_63 (by decide) (fun hc3 => ?_) (fun hc3 => ?_)
    · replace h := gm_pos hc3 h
      obtain rfl := Option.some.inj h
      exact gm_vret C0 hH dX2_findEnds_86
    · replace h := gm_neg hc3 h
      refine lv_aload_n hx hb dX2_findEnds_66 rfl (lv_at hl 0 rfl) ?_
      refine gm_get (ci := 2) C0 hH inX2_findEnds_X2 0 2 2 rfl rfl (by decide) rfl rfl dX2_findEnds_67 ?_
      refine lv_iload_n hx hb dX2_findEnds_70 rfl (lv_at hl 1 rfl) ?_
      obtain ⟨hi4, h⟩ := gm_chk_e h
      refine gm_iald C0 hH hi4 3 0 rfl rfl dX2_findEnds_71 ?_
      refine lv_if_eq (tgt := 80) hx hb dX2_findEnds_72 (by decide) (fun hc5 => ?_) (fun hc5 => ?_)
      · replace h := gm_pos hc5 h
        exact tX2_findEnds_b80 C0 hr56 h hH (lv_sub hl [0, 1] rfl)
      · replace h := gm_neg hc5 h
        refine lv_aload_n hx hb dX2_findEnds_75 rfl (lv_at hl 0 rfl) ?_
        refine lv_iload_n hx hb dX2_findEnds_76 rfl (lv_at hl 1 rfl) ?_
        obtain ⟨o6, ho6, h⟩ := gm_bind_e h
        refine gm_callV (As := [.int x1]) (rest := []) (n := 1) (ci := 2) (q0 := 0) C0 hH (mX2_goOn l dC dI cI q q_chimesOfFirst q_chimesOfSecond q_lasts m_words m_saidAtFirst m_asked m_longest m_shortest m_chimesOfFirst m_chimesOfSecond m_lasts x1   ho6) gX2_findEnds_X2_goOn rfl (by decide +kernel) ⟨rfl, rfl, Nat.le_of_ble_eq_true rfl, Nat.le_of_ble_eq_true rfl⟩ gm_T_ok (fun _ => trivial) [0, 1, 2, 3] rfl rfl rfl [0] rfl rfl rfl rfl hl.1 rfl (Nat.le_of_ble_eq_true rfl) dX2_findEnds_77 ⟨Nat.zero_le _, Nat.zero_le _⟩ (fun H locs hH => ?_)
        simp only [wX2_findEnds, wX2_goOn, gm_sets, List.set_cons_succ, List.set_cons_zero] at hH
        have hH : gm_H (dC, dI) A s (wX2_findEnds cI q q_chimesOfFirst q_chimesOfSecond q_lasts m_words m_saidAtFirst m_asked o6.1 o6.2.1 m_chimesOfFirst m_chimesOfSecond o6.2.2) H locs := hH
        exact tX2_findEnds_b80 C0 hr56 h hH (lv_sub hl [0, 1] rfl)
set_option maxRecDepth 100000 in
set_option maxHeartbeats 4000000 in
theorem tX2_findEnds_b25 {p : Program} {l : Launch} {e : Env} {s : State} {m : MethodId} {args : Array Value} {below : List Frame} {meth : Method} {c : Code} {A : Nat → Prop} {dC : Nat → ClassId} {dI : Nat → Nat → Nat} {cI : ClassId} {q q_chimesOfFirst q_chimesOfSecond q_lasts : Nat} {m_words : Int32} {m_saidAtFirst : Int32} {m_asked : Int32} {m_longest : Int32} {m_shortest : Int32} {m_chimesOfFirst : Nat → Int32} {m_chimesOfSecond : Nat → Int32} {m_lasts : Nat → Int32} (C0 : gm_C p s m args meth c (dC, dI) [(cI, .int)] A gm_T RX2 cX2_findEnds 2 none wsX2_findEnds) {N : Nat} {out : Int32 × Int32 × (Nat → Int32)}    {H : Heap} {locs : List Loc} {ls : Array Slot} (h : fX2_findEnds_b25 N  m_words m_saidAtFirst m_asked m_longest m_shortest m_chimesOfFirst m_chimesOfSecond m_lasts = some out) (hH : gm_H (dC, dI) A s (wX2_findEnds cI q q_chimesOfFirst q_chimesOfSecond q_lasts m_words m_saidAtFirst m_asked m_longest m_shortest m_chimesOfFirst m_chimesOfSecond m_lasts) H locs) (hl : lv_has ls 2 [(0, .ref q)]) : W p l e rX2_findEnds s m args below meth c H locs 0 0 (MQ below (gm_Q (dC, dI) [(cI, .int)] A none (wX2_findEnds cI q q_chimesOfFirst q_chimesOfSecond q_lasts m_words m_saidAtFirst m_asked out.1 out.2.1 m_chimesOfFirst m_chimesOfSecond out.2.2)) args s 0 0 A) (F0 m 25 ls []) := by
  obtain ⟨hx, hb, hml, hr, hown, hts, hA, hK, hX, hlocks⟩ := id C0
  unfold fX2_findEnds_b25 at h
  refine lv_aload_n hx hb dX2_findEnds_25 rfl (lv_at hl 0 rfl) ?_
  refine gm_get (ci := 2) C0 hH inX2_findEnds_X2 0 2 2 rfl rfl (by decide) rfl rfl dX2_findEnds_26 ?_
  refine lv_aload_n hx hb dX2_findEnds_29 rfl (lv_at hl 0 rfl) ?_
  refine gm_get (ci := 2) C0 hH inX2_findEnds_X2 0 4 3 rfl rfl (by decide) rfl rfl dX2_findEnds_30 ?_
  refine lv_iconst (v := 1) hx hb dX2_findEnds_33 (by decide) ?_
  refine lv_aload_n hx hb dX2_findEnds_34 rfl (lv_at hl 0 rfl) ?_
  refine gm_get (ci := 2) C0 hH inX2_findEnds_X2 0 5 4 rfl rfl (by decide) rfl rfl dX2_findEnds_35 ?_
  refine lv_ishl hx hb dX2_findEnds_38 ?_
  obtain ⟨hi2, h⟩ := gm_chk_e h
  refine gm_iast C0 hH hi2 3 0 rfl rfl dX2_findEnds_39 (fun H locs hH => ?_)
  have hH : gm_H (dC, dI) A s (wX2_findEnds cI q q_chimesOfFirst q_chimesOfSecond q_lasts m_words m_saidAtFirst m_asked m_longest m_shortest m_chimesOfFirst m_chimesOfSecond (upd m_lasts (Int32.toNatClampNeg m_saidAtFirst) (((1 : Int32) <<< (m_asked &&& 31))))) H locs := hH
  refine lv_aload_n hx hb dX2_findEnds_40 rfl (lv_at hl 0 rfl) ?_
  refine lv_iconst (v := 0) hx hb dX2_findEnds_41 (by decide) ?_
  refine gm_putf (ci := 2) C0 hH inX2_findEnds_X2 tyX2_ok nmX2 0 6 5 rfl rfl (by decide) rfl rfl rfl rfl rfl (Nat.le_of_ble_eq_true rfl) dX2_findEnds_42 (fun H locs hH => ?_)
  have hH : gm_H (dC, dI) A s (wX2_findEnds cI q q_chimesOfFirst q_chimesOfSecond q_lasts m_words m_saidAtFirst m_asked 0 m_shortest m_chimesOfFirst m_chimesOfSecond (upd m_lasts (Int32.toNatClampNeg m_saidAtFirst) (((1 : Int32) <<< (m_asked &&& 31))))) H locs := hH
  refine lv_aload_n hx hb dX2_findEnds_45 rfl (lv_at hl 0 rfl) ?_
  refine lv_bipush (v := 10) hx hb dX2_findEnds_46 (by decide) ?_
  refine gm_putf (ci := 2) C0 hH inX2_findEnds_X2 tyX2_ok nmX2 0 7 6 rfl rfl (by decide) rfl rfl rfl rfl rfl (Nat.le_of_ble_eq_true rfl) dX2_findEnds_48 (fun H locs hH => ?_)
  have hH : gm_H (dC, dI) A s (wX2_findEnds cI q q_chimesOfFirst q_chimesOfSecond q_lasts m_words m_saidAtFirst m_asked 0 10 m_chimesOfFirst m_chimesOfSecond (upd m_lasts (Int32.toNatClampNeg m_saidAtFirst) (((1 : Int32) <<< (m_asked &&& 31))))) H locs := hH
  refine lv_aload_n hx hb dX2_findEnds_51 rfl (lv_at hl 0 rfl) ?_
  refine gm_get (ci := 2) C0 hH inX2_findEnds_X2 0 4 3 rfl rfl (by decide) rfl rfl dX2_findEnds_52 ?_
  refine lv_istore_n (lv' := [(1, .int m_saidAtFirst), (0, .ref q)]) hx hb dX2_findEnds_55 rfl hl (by decide) rfl (fun ls hl => ?_)
  unfold fX2_findEnds_b56 at h
  exact tX2_findEnds_b56 C0  _ _ _ _ _ _ _ _ h hH (lv_sub hl [1, 0] rfl)
set_option maxRecDepth 100000 in
set_option maxHeartbeats 4000000 in
theorem tX2_findEnds_b2 {p : Program} {l : Launch} {e : Env} {s : State} {m : MethodId} {args : Array Value} {below : List Frame} {meth : Method} {c : Code} {A : Nat → Prop} {dC : Nat → ClassId} {dI : Nat → Nat → Nat} {cI : ClassId} {q q_chimesOfFirst q_chimesOfSecond q_lasts : Nat} {m_words : Int32} {m_saidAtFirst : Int32} {m_asked : Int32} {m_longest : Int32} {m_shortest : Int32} {m_chimesOfFirst : Nat → Int32} {m_chimesOfSecond : Nat → Int32} (C0 : gm_C p s m args meth c (dC, dI) [(cI, .int)] A gm_T RX2 cX2_findEnds 2 none wsX2_findEnds) {N : Nat} {out : Int32 × Int32 × (Nat → Int32)}   : ∀ (n : Nat), ∀ (m_lasts : Nat → Int32) (x1 : Int32) (H : Heap) (locs : List Loc) (ls : Array Slot), (gm_fix (fX2_findEnds_b2_body N  m_words m_saidAtFirst m_asked m_longest m_shortest m_chimesOfFirst m_chimesOfSecond) (fun _ _ => none) n) m_lasts x1 = some out → gm_H (dC, dI) A s (wX2_findEnds cI q q_chimesOfFirst q_chimesOfSecond q_lasts m_words m_saidAtFirst m_asked m_longest m_shortest m_chimesOfFirst m_chimesOfSecond m_lasts) H locs → lv_has ls 2 [(0, .ref q), (1, .int x1)] → W p l e rX2_findEnds s m args below meth c H locs 0 0 (MQ below (gm_Q (dC, dI) [(cI, .int)] A none (wX2_findEnds cI q q_chimesOfFirst q_chimesOfSecond q_lasts m_words m_saidAtFirst m_asked out.1 out.2.1 m_chimesOfFirst m_chimesOfSecond out.2.2)) args s 0 0 A) (F0 m 2 ls []) := by
  obtain ⟨hx, hb, hml, hr, hown, hts, hA, hK, hX, hlocks⟩ := id C0
  intro n
  induction n with
  | zero =>
    intro m_lasts x1 H locs ls h hH hl
    cases h
  | succ n hr2 =>
    intro m_lasts x1 H locs ls h hH hl
    rw [gm_fix_s] at h
    unfold fX2_findEnds_b2_body at h
    refine lv_iload_n hx hb dX2_findEnds_2 rfl (lv_at hl 1 rfl) ?_
    refine lv_iconst (v := 1) hx hb dX2_findEnds_3 (by decide) ?_
    refine lv_aload_n hx hb dX2_findEnds_4 rfl (lv_at hl 0 rfl) ?_
    refine gm_get (ci := 2) C0 hH inX2_findEnds_X2 0 3 1 rfl rfl (by decide) rfl rfl dX2_findEnds_5 ?_
    refine lv_ishl hx hb dX2_findEnds_8 ?_
    refine lv_icmp_ge (tgt := 25) hx hb dX2_findEnds_9 (by decide) (fun hc1 => ?_) (fun hc1 => ?_)
    · replace h := gm_pos hc1 h
      exact tX2_findEnds_b25 C0  h hH (lv_sub hl [0] rfl)
    · replace h := gm_neg hc1 h
      refine lv_aload_n hx hb dX2_findEnds_12 rfl (lv_at hl 0 rfl) ?_
      refine gm_get (ci := 2) C0 hH inX2_findEnds_X2 0 2 2 rfl rfl (by decide) rfl rfl dX2_findEnds_13 ?_
      refine lv_iload_n hx hb dX2_findEnds_16 rfl (lv_at hl 1 rfl) ?_
      refine lv_iconst (v := 0) hx hb dX2_findEnds_17 (by decide) ?_
      obtain ⟨hi7, h⟩ := gm_chk_e h
      refine gm_iast C0 hH hi7 3 0 rfl rfl dX2_findEnds_18 (fun H locs hH => ?_)
      have hH : gm_H (dC, dI) A s (wX2_findEnds cI q q_chimesOfFirst q_chimesOfSecond q_lasts m_words m_saidAtFirst m_asked m_longest m_shortest m_chimesOfFirst m_chimesOfSecond (upd m_lasts (Int32.toNatClampNeg x1) 0)) H locs := hH
      refine lv_iinc (v := (x1 + 1)) (lv' := [(1, .int (x1 + 1)), (0, .ref q)]) hx hb dX2_findEnds_19 hl (k := 1) rfl rfl (by decide) rfl (fun ls hl => ?_)
      refine lv_goto (tgt := 2) hx hb dX2_findEnds_22 (by decide) ?_
      exact hr2 _ _ _ _ _ h hH (lv_sub hl [1, 0] rfl)
set_option maxRecDepth 100000 in
set_option maxHeartbeats 4000000 in
theorem mX2_findEnds (l : Launch) (dC : Nat → ClassId) (dI : Nat → Nat → Nat) (cI : ClassId) (q q_chimesOfFirst q_chimesOfSecond q_lasts : Nat) (m_words : Int32) (m_saidAtFirst : Int32) (m_asked : Int32) (m_longest : Int32) (m_shortest : Int32) (m_chimesOfFirst : Nat → Int32) (m_chimesOfSecond : Nat → Int32) (m_lasts : Nat → Int32)   {N : Nat} {out : Int32 × Int32 × (Nat → Int32)} (h : fX2_findEnds N m_words m_saidAtFirst m_asked m_longest m_shortest m_chimesOfFirst m_chimesOfSecond m_lasts = some out) : gm_Met l yX2_findEnds wsX2_findEnds rX2_findEnds (dC, dI) [(cI, .int)] gm_T [.ref q] (wX2_findEnds cI q q_chimesOfFirst q_chimesOfSecond q_lasts m_words m_saidAtFirst m_asked m_longest m_shortest m_chimesOfFirst m_chimesOfSecond m_lasts) none (wX2_findEnds cI q q_chimesOfFirst q_chimesOfSecond q_lasts m_words m_saidAtFirst m_asked out.1 out.2.1 m_chimesOfFirst m_chimesOfSecond out.2.2) := by
  refine gm_ofW (cc := cX2_findEnds) (maxL := 2) (ret := none) (by decide +kernel) rfl (Nat.le_of_ble_eq_true rfl) ?_
  intro p e s m below meth c A C0 hH ls hl
  generalize ([.ref q] : List Value).toArray = args at C0 ⊢
  have hl : lv_has ls 2 [(0, .ref q)] := hl
  generalize s.heap = H at hH ⊢
  generalize ([] : List Loc) = locs at hH ⊢
  obtain ⟨hx, hb, hml, hr, hown, hts, hA, hK, hX, hlocks⟩ := id C0
  unfold fX2_findEnds at h
  refine lv_iconst (v := 0) hx hb dX2_findEnds_0 (by decide) ?_
  refine lv_istore_n (lv' := [(1, .int 0), (0, .ref q)]) hx hb dX2_findEnds_1 rfl hl (by decide) rfl (fun ls hl => ?_)
  unfold fX2_findEnds_b2 at h
  exact tX2_findEnds_b2 C0  _ _ _ _ _ _ h hH (lv_sub hl [1, 0] rfl)

/-! X6_put -/
abbrev wX6_put (cI : ClassId) (q q_bytes : Nat) (m_length : Int32) (m_items : Int32) (m_place : Int32) (m_start : Int32) (m_token : Int32) (m_number : Int32) (m_bytes : Nat → Int32) : va_W := [(q, .inr (6, [.ref q_bytes, .int m_length, .int m_items, .int m_place, .int m_start, .int m_token, .int m_number])), (q_bytes, .inl (cI, 150, .inl m_bytes))]
abbrev rX6_put : Room := { frames := 0, cells := 0, slots := 0, locals := 0 }
def fX6_put (N : Nat) (m_length : Int32) (m_bytes : Nat → Int32) (x1 : Int32) : Option (Int32 × Int32 × (Nat → Int32)) := (if m_length < 150 then gm_chk m_length 150 (gm_let ((m_length + 1) : Int32) (fun (v3 : Int32) => some (v3, v3, upd m_bytes (Int32.toNatClampNeg m_length) x1))) else some ((-4), m_length, m_bytes))
set_option maxRecDepth 20000 in
theorem inX6_put_X6 : ∀ w ∈ u_ws RX6 TX6 7, w ∈ wsX6_put := fun w h => by
  obtain ⟨k, hk, rfl⟩ := List.mem_map.mp h
  have hk2 := List.mem_range.mp hk
  exact List.mem_of_getElem? (i := 3 + k) (by rcases (show k = 0 ∨ k = 1 ∨ k = 2 ∨ k = 3 ∨ k = 4 ∨ k = 5 ∨ k = 6 by omega) with rfl | rfl | rfl | rfl | rfl | rfl | rfl <;> rfl)
set_option maxRecDepth 100000 in
set_option maxHeartbeats 4000000 in
theorem mX6_put (l : Launch) (dC : Nat → ClassId) (dI : Nat → Nat → Nat) (cI : ClassId) (q q_bytes : Nat) (m_length : Int32) (m_items : Int32) (m_place : Int32) (m_start : Int32) (m_token : Int32) (m_number : Int32) (m_bytes : Nat → Int32) (x1 : Int32)  {N : Nat} {out : Int32 × Int32 × (Nat → Int32)} (h : fX6_put N m_length m_bytes x1 = some out) : gm_Met l yX6_put wsX6_put rX6_put (dC, dI) [(cI, .int)] gm_T [.ref q, .int x1] (wX6_put cI q q_bytes m_length m_items m_place m_start m_token m_number m_bytes) (some (.int out.1)) (wX6_put cI q q_bytes out.2.1 m_items m_place m_start m_token m_number out.2.2) := by
  refine gm_ofW (cc := cX6_put) (maxL := 2) (ret := (some .int)) (by decide +kernel) rfl (Nat.le_of_ble_eq_true rfl) ?_
  intro p e s m below meth c A C0 hH ls hl
  generalize ([.ref q, .int x1] : List Value).toArray = args at C0 ⊢
  have hl : lv_has ls 2 [(0, .ref q), (1, .int x1)] := hl
  generalize s.heap = H at hH ⊢
  generalize ([] : List Loc) = locs at hH ⊢
  obtain ⟨hx, hb, hml, hr, hown, hts, hA, hK, hX, hlocks⟩ := id C0
  unfold fX6_put at h
  refine lv_aload_n hx hb dX6_put_0 rfl (lv_at hl 0 rfl) ?_
  refine gm_get (ci := 6) C0 hH inX6_put_X6 0 1 1 rfl rfl (by decide) rfl rfl dX6_put_1 ?_
  refine lv_sipush (v := 150) hx hb dX6_put_4 (by decide) ?_
  refine lv_icmp_lt (tgt := 13) hx hb dX6_put_7 (by decide) (fun hc1 => ?_) (fun hc1 => ?_)
  · replace h := gm_pos hc1 h
    refine lv_aload_n hx hb dX6_put_13 rfl (lv_at hl 0 rfl) ?_
    refine gm_get (ci := 6) C0 hH inX6_put_X6 0 0 2 rfl rfl (by decide) rfl rfl dX6_put_14 ?_
    refine lv_aload_n hx hb dX6_put_17 rfl (lv_at hl 0 rfl) ?_
    refine gm_get (ci := 6) C0 hH inX6_put_X6 0 1 1 rfl rfl (by decide) rfl rfl dX6_put_18 ?_
    refine lv_iload_n hx hb dX6_put_21 rfl (lv_at hl 1 rfl) ?_
    obtain ⟨hi2, h⟩ := gm_chk_e h
    refine gm_iast C0 hH hi2 1 0 rfl rfl dX6_put_22 (fun H locs hH => ?_)
    have hH : gm_H (dC, dI) A s (wX6_put cI q q_bytes m_length m_items m_place m_start m_token m_number (upd m_bytes (Int32.toNatClampNeg m_length) x1)) H locs := hH
    refine lv_aload_n hx hb dX6_put_23 rfl (lv_at hl 0 rfl) ?_
    refine lv_dup hx hb dX6_put_24 rfl ?_
    refine gm_get (ci := 6) C0 hH inX6_put_X6 0 1 1 rfl rfl (by decide) rfl rfl dX6_put_25 ?_
    refine lv_iconst (v := 1) hx hb dX6_put_28 (by decide) ?_
    refine lv_iadd hx hb dX6_put_29 ?_
    refine lv_topi (fun v3 ev3 => ?_)
    replace h := gm_let_e ev3 h
    refine gm_putf (ci := 6) C0 hH inX6_put_X6 tyX6_ok nmX6 0 1 1 rfl rfl (by decide) rfl rfl rfl rfl rfl (Nat.le_of_ble_eq_true rfl) dX6_put_30 (fun H locs hH => ?_)
    have hH : gm_H (dC, dI) A s (wX6_put cI q q_bytes v3 m_items m_place m_start m_token m_number (upd m_bytes (Int32.toNatClampNeg m_length) x1)) H locs := hH
    refine lv_aload_n hx hb dX6_put_33 rfl (lv_at hl 0 rfl) ?_
    refine gm_get (ci := 6) C0 hH inX6_put_X6 0 1 1 rfl rfl (by decide) rfl rfl dX6_put_34 ?_
    obtain rfl := Option.some.inj h
    exact gm_iret C0 hH dX6_put_37
  · replace h := gm_neg hc1 h
    refine lv_bipush (v := (-4)) hx hb dX6_put_10 (by decide) ?_
    obtain rfl := Option.some.inj h
    exact gm_iret C0 hH dX6_put_12
