/-! X11_read -/
abbrev wX11_read (cI : ClassId) (q q_tongue q_fresh q_text q_refused q_kept q_isKept q_said q_talk : Nat) (m_thrown : Int32) (m_size : Int32) (m_at : Int32) (m_start : Int32) (m_token : Int32) (m_value : Int64) (m_faultAt : Int32) (m_allowed : Int32) (m_firstPair : Int32) (m_secondPair : Int32) (m_above : Int64) (m_below : Int64) (m_tongue : Nat → Int32) (m_fresh : Nat → Int32) (m_text : Nat → Int32) : va_W := [(q, .inr (11, [.int m_thrown, .ref q_refused, .ref q_tongue, .ref q_fresh, .ref q_kept, .ref q_isKept, .ref q_text, .int m_size, .int m_at, .int m_start, .int m_token, .long m_value, .int m_faultAt, .ref q_said, .ref q_talk, .int m_allowed, .int m_firstPair, .int m_secondPair, .long m_above, .long m_below])), (q_tongue, .inl (cI, 73, .inl m_tongue)), (q_fresh, .inl (cI, 73, .inl m_fresh)), (q_text, .inl (cI, 150, .inl m_text))]
abbrev rX11_read : Room := { frames := 5, cells := 0, slots := 0, locals := 113 }
def fX11_read_b123_body (N : Nat)  (m_thrown : Int32) (m_at : Int32) (m_start : Int32) (m_token : Int32) (m_value : Int64) (m_faultAt : Int32) (m_fresh : Nat → Int32) (x1 : Int32) (r123 : (Nat → Int32) → Int32 → Option (Int32 × Int32 × Int32 × Int32 × Int32 × Int64 × Int32 × (Nat → Int32) × (Nat → Int32))) (m_tongue : Nat → Int32) (x2 : Int32) : Option (Int32 × Int32 × Int32 × Int32 × Int32 × Int64 × Int32 × (Nat → Int32) × (Nat → Int32)) := (if 73 ≤ x2 then some (x1, m_thrown, m_at, m_start, m_token, m_value, m_faultAt, m_tongue, m_fresh) else gm_chk x2 73 (gm_chk x2 73 ((r123 (upd m_tongue (Int32.toNatClampNeg x2) ((m_fresh (Int32.toNatClampNeg x2)))) ((x2 + 1))))))
def fX11_read_b123 (N : Nat)  (m_thrown : Int32) (m_at : Int32) (m_start : Int32) (m_token : Int32) (m_value : Int64) (m_faultAt : Int32) (m_fresh : Nat → Int32) (x1 : Int32) (m_tongue : Nat → Int32) (x2 : Int32) : Option (Int32 × Int32 × Int32 × Int32 × Int32 × Int64 × Int32 × (Nat → Int32) × (Nat → Int32)) := gm_fix (fX11_read_b123_body N  m_thrown m_at m_start m_token m_value m_faultAt m_fresh x1) (fun _ _ => none) N m_tongue x2
def fX11_read_b105 (N : Nat)  (m_thrown : Int32) (m_at : Int32) (m_start : Int32) (m_token : Int32) (m_value : Int64) (m_faultAt : Int32) (m_tongue : Nat → Int32) (m_fresh : Nat → Int32) (x1 : Int32) : Option (Int32 × Int32 × Int32 × Int32 × Int32 × Int64 × Int32 × (Nat → Int32) × (Nat → Int32)) := (if m_faultAt = (-1) then (fX11_read_b123 N  m_thrown m_at m_start m_token m_value m_faultAt m_fresh x1 m_tongue 0) else some (((-10) - m_faultAt), m_thrown, m_at, m_start, m_token, m_value, m_faultAt, m_tongue, m_fresh))
def fX11_read_b79_body (N : Nat)  (m_thrown : Int32) (m_size : Int32) (m_tongue : Nat → Int32) (m_text : Nat → Int32) (r79 : Int32 → Int32 → Int32 → Int64 → Int32 → (Nat → Int32) → Int32 → Option (Int32 × Int32 × Int32 × Int32 × Int32 × Int64 × Int32 × (Nat → Int32) × (Nat → Int32))) (m_at : Int32) (m_start : Int32) (m_token : Int32) (m_value : Int64) (m_faultAt : Int32) (m_fresh : Nat → Int32) (x1 : Int32) : Option (Int32 × Int32 × Int32 × Int32 × Int32 × Int64 × Int32 × (Nat → Int32) × (Nat → Int32)) := (if m_faultAt = (-1) then (if m_token = 1 then (fX11_read_b105 N  m_thrown m_at m_start m_token m_value m_faultAt m_tongue m_fresh x1) else gm_bind (fX11_readItem N m_size m_at m_start m_token m_value m_faultAt m_fresh m_text) (fun o11 => (r79 o11.1 o11.2.1 o11.2.2.1 o11.2.2.2.1 o11.2.2.2.2.1 o11.2.2.2.2.2 ((x1 + 1))))) else (fX11_read_b105 N  m_thrown m_at m_start m_token m_value m_faultAt m_tongue m_fresh x1))
def fX11_read_b79 (N : Nat)  (m_thrown : Int32) (m_size : Int32) (m_tongue : Nat → Int32) (m_text : Nat → Int32) (m_at : Int32) (m_start : Int32) (m_token : Int32) (m_value : Int64) (m_faultAt : Int32) (m_fresh : Nat → Int32) (x1 : Int32) : Option (Int32 × Int32 × Int32 × Int32 × Int32 × Int64 × Int32 × (Nat → Int32) × (Nat → Int32)) := gm_fix (fX11_read_b79_body N  m_thrown m_size m_tongue m_text) (fun _ _ _ _ _ _ _ => none) N m_at m_start m_token m_value m_faultAt m_fresh x1
def fX11_read_b61 (N : Nat)  (m_thrown : Int32) (m_size : Int32) (m_at : Int32) (m_start : Int32) (m_token : Int32) (m_value : Int64) (m_faultAt : Int32) (m_tongue : Nat → Int32) (m_fresh : Nat → Int32) (m_text : Nat → Int32) (x1 : Int32) : Option (Int32 × Int32 × Int32 × Int32 × Int32 × Int64 × Int32 × (Nat → Int32) × (Nat → Int32)) := gm_bind (fX11_faultHere N m_size m_start m_token m_faultAt) (fun o4 => (fX11_read_b79 N  m_thrown m_size m_tongue m_text m_at m_start m_token m_value o4 m_fresh x1))
def fX11_read_b26 (N : Nat)  (m_thrown : Int32) (m_size : Int32) (m_at : Int32) (m_start : Int32) (m_token : Int32) (m_value : Int64) (m_faultAt : Int32) (m_tongue : Nat → Int32) (m_fresh : Nat → Int32) (m_text : Nat → Int32) : Option (Int32 × Int32 × Int32 × Int32 × Int32 × Int64 × Int32 × (Nat → Int32) × (Nat → Int32)) := gm_bind (fX11_next N m_size 0 m_start m_token m_value m_text) (fun o2 => (if o2.2.2.1 = 2 then (if (lg_cmp o2.2.2.2 295230992) = 0 then gm_bind (fX11_next N m_size o2.1 o2.2.1 o2.2.2.1 o2.2.2.2 m_text) (fun o13 => gm_bind (fX11_sign N m_size o13.1 o13.2.1 o13.2.2.1 o13.2.2.2 ((-1)) m_text) (fun o14 => (fX11_read_b79 N  m_thrown m_size m_tongue m_text o14.1 o14.2.1 o14.2.2.1 o14.2.2.2.1 o14.2.2.2.2 m_fresh ((0 + 1))))) else (fX11_read_b61 N  m_thrown m_size o2.1 o2.2.1 o2.2.2.1 o2.2.2.2 ((-1)) m_tongue m_fresh m_text 0)) else (fX11_read_b61 N  m_thrown m_size o2.1 o2.2.1 o2.2.2.1 o2.2.2.2 ((-1)) m_tongue m_fresh m_text 0)))
def fX11_read_b7_body (N : Nat)  (m_thrown : Int32) (m_size : Int32) (m_at : Int32) (m_start : Int32) (m_token : Int32) (m_value : Int64) (m_faultAt : Int32) (m_tongue : Nat → Int32) (m_text : Nat → Int32) (r7 : (Nat → Int32) → Int32 → Option (Int32 × Int32 × Int32 × Int32 × Int32 × Int64 × Int32 × (Nat → Int32) × (Nat → Int32))) (m_fresh : Nat → Int32) (x1 : Int32) : Option (Int32 × Int32 × Int32 × Int32 × Int32 × Int64 × Int32 × (Nat → Int32) × (Nat → Int32)) := (if 73 ≤ x1 then (fX11_read_b26 N  m_thrown m_size m_at m_start m_token m_value m_faultAt m_tongue m_fresh m_text) else gm_chk x1 73 ((r7 (upd m_fresh (Int32.toNatClampNeg x1) 0) ((x1 + 1)))))
def fX11_read_b7 (N : Nat)  (m_thrown : Int32) (m_size : Int32) (m_at : Int32) (m_start : Int32) (m_token : Int32) (m_value : Int64) (m_faultAt : Int32) (m_tongue : Nat → Int32) (m_text : Nat → Int32) (m_fresh : Nat → Int32) (x1 : Int32) : Option (Int32 × Int32 × Int32 × Int32 × Int32 × Int64 × Int32 × (Nat → Int32) × (Nat → Int32)) := gm_fix (fX11_read_b7_body N  m_thrown m_size m_at m_start m_token m_value m_faultAt m_tongue m_text) (fun _ _ => none) N m_fresh x1
def fX11_read (N : Nat) (m_thrown : Int32) (m_size : Int32) (m_at : Int32) (m_start : Int32) (m_token : Int32) (m_value : Int64) (m_faultAt : Int32) (m_tongue : Nat → Int32) (m_fresh : Nat → Int32) (m_text : Nat → Int32)  : Option (Int32 × Int32 × Int32 × Int32 × Int32 × Int64 × Int32 × (Nat → Int32) × (Nat → Int32)) := (fX11_read_b7 N  0 m_size m_at m_start m_token m_value m_faultAt m_tongue m_text m_fresh 0)
set_option maxRecDepth 20000 in
theorem inX11_read_X11 : ∀ w ∈ u_ws RX11 TX11 20, w ∈ wsX11_read := fun w h => by
  obtain ⟨k, hk, rfl⟩ := List.mem_map.mp h
  have hk2 := List.mem_range.mp hk
  exact List.mem_of_getElem? (i := 64 + k) (by rcases (show k = 0 ∨ k = 1 ∨ k = 2 ∨ k = 3 ∨ k = 4 ∨ k = 5 ∨ k = 6 ∨ k = 7 ∨ k = 8 ∨ k = 9 ∨ k = 10 ∨ k = 11 ∨ k = 12 ∨ k = 13 ∨ k = 14 ∨ k = 15 ∨ k = 16 ∨ k = 17 ∨ k = 18 ∨ k = 19 by omega) with rfl | rfl | rfl | rfl | rfl | rfl | rfl | rfl | rfl | rfl | rfl | rfl | rfl | rfl | rfl | rfl | rfl | rfl | rfl | rfl <;> rfl)
set_option maxRecDepth 100000 in
set_option maxHeartbeats 4000000 in
theorem tX11_read_b123 {p : Program} {l : Launch} {e : Env} {s : State} {m : MethodId} {args : Array Value} {below : List Frame} {meth : Method} {c : Code} {A : Nat → Prop} {dC : Nat → ClassId} {dI : Nat → Nat → Nat} {cI : ClassId} {q q_tongue q_fresh q_text q_refused q_kept q_isKept q_said q_talk : Nat} {m_thrown : Int32} {m_size : Int32} {m_at : Int32} {m_start : Int32} {m_token : Int32} {m_value : Int64} {m_faultAt : Int32} {m_allowed : Int32} {m_firstPair : Int32} {m_secondPair : Int32} {m_above : Int64} {m_below : Int64} {m_fresh : Nat → Int32} {m_text : Nat → Int32} {x1 : Int32} (C0 : gm_C p s m args meth c (dC, dI) [(cI, .int)] A gm_T RX11 cX11_read 3 (some .int) wsX11_read) {N : Nat} {out : Int32 × Int32 × Int32 × Int32 × Int32 × Int64 × Int32 × (Nat → Int32) × (Nat → Int32)}   : ∀ (n : Nat), ∀ (m_tongue : Nat → Int32) (x2 : Int32) (H : Heap) (locs : List Loc) (ls : Array Slot), (gm_fix (fX11_read_b123_body N  m_thrown m_at m_start m_token m_value m_faultAt m_fresh x1) (fun _ _ => none) n) m_tongue x2 = some out → gm_H (dC, dI) A s (wX11_read cI q q_tongue q_fresh q_text q_refused q_kept q_isKept q_said q_talk m_thrown m_size m_at m_start m_token m_value m_faultAt m_allowed m_firstPair m_secondPair m_above m_below m_tongue m_fresh m_text) H locs → lv_has ls 3 [(0, .ref q), (1, .int x1), (2, .int x2)] → W p l e rX11_read s m args below meth c H locs 0 0 (MQ below (gm_Q (dC, dI) [(cI, .int)] A (some (.int out.1)) (wX11_read cI q q_tongue q_fresh q_text q_refused q_kept q_isKept q_said q_talk out.2.1 m_size out.2.2.1 out.2.2.2.1 out.2.2.2.2.1 out.2.2.2.2.2.1 out.2.2.2.2.2.2.1 m_allowed m_firstPair m_secondPair m_above m_below out.2.2.2.2.2.2.2.1 out.2.2.2.2.2.2.2.2 m_text)) args s 0 0 A) (F0 m 123 ls []) := by
  obtain ⟨hx, hb, hml, hr, hown, hts, hA, hK, hX, hlocks⟩ := id C0
  intro n
  induction n with
  | zero =>
    intro m_tongue x2 H locs ls h hH hl
    cases h
  | succ n hr123 =>
    intro m_tongue x2 H locs ls h hH hl
    rw [gm_fix_s] at h
    unfold fX11_read_b123_body at h
    refine lv_iload_n hx hb dX11_read_123 rfl (lv_at hl 2 rfl) ?_
    refine lv_bipush (v := 73) hx hb dX11_read_124 (by decide) ?_
    refine lv_icmp_ge (tgt := 147) hx hb dX11_read_126 (by decide) (fun hc7 => ?_) (fun hc7 => ?_)
    · replace h := gm_pos hc7 h
      refine lv_iload_n hx hb dX11_read_147 rfl (lv_at hl 1 rfl) ?_
      obtain rfl := Option.some.inj h
      exact gm_iret C0 hH dX11_read_148
    · replace h := gm_neg hc7 h
      refine lv_aload_n hx hb dX11_read_129 rfl (lv_at hl 0 rfl) ?_
      refine gm_get (ci := 11) C0 hH inX11_read_X11 0 2 8 rfl rfl (by decide) rfl rfl dX11_read_130 ?_
      refine lv_iload_n hx hb dX11_read_133 rfl (lv_at hl 2 rfl) ?_
      refine lv_aload_n hx hb dX11_read_134 rfl (lv_at hl 0 rfl) ?_
      refine gm_get (ci := 11) C0 hH inX11_read_X11 0 3 2 rfl rfl (by decide) rfl rfl dX11_read_135 ?_
      refine lv_iload_n hx hb dX11_read_138 rfl (lv_at hl 2 rfl) ?_
      obtain ⟨hi8, h⟩ := gm_chk_e h
      refine gm_iald C0 hH hi8 2 0 rfl rfl dX11_read_139 ?_
      obtain ⟨hi9, h⟩ := gm_chk_e h
      refine gm_iast C0 hH hi9 1 0 rfl rfl dX11_read_140 (fun H locs hH => ?_)
      have hH : gm_H (dC, dI) A s (wX11_read cI q q_tongue q_fresh q_text q_refused q_kept q_isKept q_said q_talk m_thrown m_size m_at m_start m_token m_value m_faultAt m_allowed m_firstPair m_secondPair m_above m_below (upd m_tongue (Int32.toNatClampNeg x2) ((m_fresh (Int32.toNatClampNeg x2)))) m_fresh m_text) H locs := hH
      refine lv_iinc (v := (x2 + 1)) (lv' := [(2, .int (x2 + 1)), (0, .ref q), (1, .int x1)]) hx hb dX11_read_141 hl (k := 2) rfl rfl (by decide) rfl (fun ls hl => ?_)
      refine lv_goto (tgt := 123) hx hb dX11_read_144 (by decide) ?_
      exact hr123 _ _ _ _ _ h hH (lv_sub hl [1, 2, 0] rfl)
set_option maxRecDepth 100000 in
set_option maxHeartbeats 4000000 in
theorem tX11_read_b105 {p : Program} {l : Launch} {e : Env} {s : State} {m : MethodId} {args : Array Value} {below : List Frame} {meth : Method} {c : Code} {A : Nat → Prop} {dC : Nat → ClassId} {dI : Nat → Nat → Nat} {cI : ClassId} {q q_tongue q_fresh q_text q_refused q_kept q_isKept q_said q_talk : Nat} {m_thrown : Int32} {m_size : Int32} {m_at : Int32} {m_start : Int32} {m_token : Int32} {m_value : Int64} {m_faultAt : Int32} {m_allowed : Int32} {m_firstPair : Int32} {m_secondPair : Int32} {m_above : Int64} {m_below : Int64} {m_tongue : Nat → Int32} {m_fresh : Nat → Int32} {m_text : Nat → Int32} {x1 : Int32} (C0 : gm_C p s m args meth c (dC, dI) [(cI, .int)] A gm_T RX11 cX11_read 3 (some .int) wsX11_read) {N : Nat} {out : Int32 × Int32 × Int32 × Int32 × Int32 × Int64 × Int32 × (Nat → Int32) × (Nat → Int32)}    {H : Heap} {locs : List Loc} {ls : Array Slot} (h : fX11_read_b105 N  m_thrown m_at m_start m_token m_value m_faultAt m_tongue m_fresh x1 = some out) (hH : gm_H (dC, dI) A s (wX11_read cI q q_tongue q_fresh q_text q_refused q_kept q_isKept q_said q_talk m_thrown m_size m_at m_start m_token m_value m_faultAt m_allowed m_firstPair m_secondPair m_above m_below m_tongue m_fresh m_text) H locs) (hl : lv_has ls 3 [(0, .ref q), (1, .int x1)]) : W p l e rX11_read s m args below meth c H locs 0 0 (MQ below (gm_Q (dC, dI) [(cI, .int)] A (some (.int out.1)) (wX11_read cI q q_tongue q_fresh q_text q_refused q_kept q_isKept q_said q_talk out.2.1 m_size out.2.2.1 out.2.2.2.1 out.2.2.2.2.1 out.2.2.2.2.2.1 out.2.2.2.2.2.2.1 m_allowed m_firstPair m_secondPair m_above m_below out.2.2.2.2.2.2.2.1 out.2.2.2.2.2.2.2.2 m_text)) args s 0 0 A) (F0 m 105 ls []) := by
  obtain ⟨hx, hb, hml, hr, hown, hts, hA, hK, hX, hlocks⟩ := id C0
  unfold fX11_read_b105 at h
  refine lv_aload_n hx hb dX11_read_105 rfl (lv_at hl 0 rfl) ?_
  refine gm_get (ci := 11) C0 hH inX11_read_X11 0 12 4 rfl rfl (by decide) rfl rfl dX11_read_106 ?_
  refine lv_iconst (v := (-1)) hx hb dX11_read_109 (by decide) ?_
  refine lv_icmp_eq (tgt := 121) hx hb dX11_read_110 (by decide) (fun hc6 => ?_) (fun hc6 => ?_)
  · replace h := gm_pos hc6 h
    refine lv_iconst (v := 0) hx hb dX11_read_121 (by decide) ?_
    refine lv_istore_n (lv' := [(2, .int 0), (0, .ref q), (1, .int x1)]) hx hb dX11_read_122 rfl hl (by decide) rfl (fun ls hl => ?_)
    unfold fX11_read_b123 at h
    exact tX11_read_b123 C0  _ _ _ _ _ _ h hH (lv_sub hl [1, 2, 0] rfl)
  · replace h := gm_neg hc6 h
    refine lv_bipush (v := (-10)) hx hb dX11_read_113 (by decide) ?_
    refine lv_aload_n hx hb dX11_read_115 rfl (lv_at hl 0 rfl) ?_
    refine gm_get (ci := 11) C0 hH inX11_read_X11 0 12 4 rfl rfl (by decide) rfl rfl dX11_read_116 ?_
    refine lv_isub hx hb dX11_read_119 ?_
    obtain rfl := Option.some.inj h
    exact gm_iret C0 hH dX11_read_120
set_option maxRecDepth 100000 in
set_option maxHeartbeats 4000000 in
theorem tX11_read_b79 {p : Program} {l : Launch} {e : Env} {s : State} {m : MethodId} {args : Array Value} {below : List Frame} {meth : Method} {c : Code} {A : Nat → Prop} {dC : Nat → ClassId} {dI : Nat → Nat → Nat} {cI : ClassId} {q q_tongue q_fresh q_text q_refused q_kept q_isKept q_said q_talk : Nat} {m_thrown : Int32} {m_size : Int32} {m_allowed : Int32} {m_firstPair : Int32} {m_secondPair : Int32} {m_above : Int64} {m_below : Int64} {m_tongue : Nat → Int32} {m_text : Nat → Int32} (C0 : gm_C p s m args meth c (dC, dI) [(cI, .int)] A gm_T RX11 cX11_read 3 (some .int) wsX11_read) {N : Nat} {out : Int32 × Int32 × Int32 × Int32 × Int32 × Int64 × Int32 × (Nat → Int32) × (Nat → Int32)}   : ∀ (n : Nat), ∀ (m_at : Int32) (m_start : Int32) (m_token : Int32) (m_value : Int64) (m_faultAt : Int32) (m_fresh : Nat → Int32) (x1 : Int32) (H : Heap) (locs : List Loc) (ls : Array Slot), (gm_fix (fX11_read_b79_body N  m_thrown m_size m_tongue m_text) (fun _ _ _ _ _ _ _ => none) n) m_at m_start m_token m_value m_faultAt m_fresh x1 = some out → gm_H (dC, dI) A s (wX11_read cI q q_tongue q_fresh q_text q_refused q_kept q_isKept q_said q_talk m_thrown m_size m_at m_start m_token m_value m_faultAt m_allowed m_firstPair m_secondPair m_above m_below m_tongue m_fresh m_text) H locs → lv_has ls 3 [(0, .ref q), (1, .int x1)] → W p l e rX11_read s m args below meth c H locs 0 0 (MQ below (gm_Q (dC, dI) [(cI, .int)] A (some (.int out.1)) (wX11_read cI q q_tongue q_fresh q_text q_refused q_kept q_isKept q_said q_talk out.2.1 m_size out.2.2.1 out.2.2.2.1 out.2.2.2.2.1 out.2.2.2.2.2.1 out.2.2.2.2.2.2.1 m_allowed m_firstPair m_secondPair m_above m_below out.2.2.2.2.2.2.2.1 out.2.2.2.2.2.2.2.2 m_text)) args s 0 0 A) (F0 m 79 ls []) := by
  obtain ⟨hx, hb, hml, hr, hown, hts, hA, hK, hX, hlocks⟩ := id C0
  intro n
  induction n with
  | zero =>
    intro m_at m_start m_token m_value m_faultAt m_fresh x1 H locs ls h hH hl
    cases h
  | succ n hr79 =>
    intro m_at m_start m_token m_value m_faultAt m_fresh x1 H locs ls h hH hl
    rw [gm_fix_s] at h
    unfold fX11_read_b79_body at h
    refine lv_aload_n hx hb dX11_read_79 rfl (lv_at hl 0 rfl) ?_
    refine gm_get (ci := 11) C0 hH inX11_read_X11 0 12 4 rfl rfl (by decide) rfl rfl dX11_read_80 ?_
    refine lv_iconst (v := (-1)) hx hb dX11_read_83 (by decide) ?_
    refine lv_icmp_ne (tgt := 105) hx hb dX11_read_84 (by decide) (fun hc5 => ?_) (fun hc5 => ?_)
    · replace h := gm_neg hc5 h
      exact tX11_read_b105 C0  h hH (lv_sub hl [0, 1] rfl)
    · replace h := gm_pos hc5 h
      refine lv_aload_n hx hb dX11_read_87 rfl (lv_at hl 0 rfl) ?_
      refine gm_get (ci := 11) C0 hH inX11_read_X11 0 10 5 rfl rfl (by decide) rfl rfl dX11_read_88 ?_
      refine lv_iconst (v := 1) hx hb dX11_read_91 (by decide) ?_
      refine lv_icmp_eq (tgt := 105) hx hb dX11_read_92 (by decide) (fun hc10 => ?_) (fun hc10 => ?_)
      · replace h := gm_pos hc10 h
        exact tX11_read_b105 C0  h hH (lv_sub hl [0, 1] rfl)
      · replace h := gm_neg hc10 h
        refine lv_aload_n hx hb dX11_read_95 rfl (lv_at hl 0 rfl) ?_
        obtain ⟨o11, ho11, h⟩ := gm_bind_e h
        refine gm_callV (As := []) (rest := []) (n := 0) (ci := 11) (q0 := 0) C0 hH (mX11_readItem l dC dI cI q q_fresh q_text q_refused q_tongue q_kept q_isKept q_said q_talk m_thrown m_size m_at m_start m_token m_value m_faultAt m_allowed m_firstPair m_secondPair m_above m_below m_fresh m_text    ho11) gX11_read_X11_readItem rfl (by decide +kernel) ⟨rfl, rfl, Nat.le_of_ble_eq_true rfl, Nat.le_of_ble_eq_true rfl⟩ gm_T_ok (fun _ => trivial) [0, 2, 3] rfl rfl rfl [0] rfl rfl rfl rfl hl.1 rfl (Nat.le_of_ble_eq_true rfl) dX11_read_96 ⟨Nat.zero_le _, Nat.zero_le _⟩ (fun H locs hH => ?_)
        have hH : gm_H (dC, dI) A s (wX11_read cI q q_tongue q_fresh q_text q_refused q_kept q_isKept q_said q_talk m_thrown m_size o11.1 o11.2.1 o11.2.2.1 o11.2.2.2.1 o11.2.2.2.2.1 m_allowed m_firstPair m_secondPair m_above m_below m_tongue o11.2.2.2.2.2 m_text) H locs := hH
        refine lv_iinc (v := (x1 + 1)) (lv' := [(1, .int (x1 + 1)), (0, .ref q)]) hx hb dX11_read_99 hl (k := 1) rfl rfl (by decide) rfl (fun ls hl => ?_)
        refine lv_goto (tgt := 79) hx hb dX11_read_102 (by decide) ?_
        exact hr79 _ _ _ _ _ _ _ _ _ _ h hH (lv_sub hl [1, 0] rfl)
set_option maxRecDepth 100000 in
set_option maxHeartbeats 4000000 in
theorem tX11_read_b61 {p : Program} {l : Launch} {e : Env} {s : State} {m : MethodId} {args : Array Value} {below : List Frame} {meth : Method} {c : Code} {A : Nat → Prop} {dC : Nat → ClassId} {dI : Nat → Nat → Nat} {cI : ClassId} {q q_tongue q_fresh q_text q_refused q_kept q_isKept q_said q_talk : Nat} {m_thrown : Int32} {m_size : Int32} {m_at : Int32} {m_start : Int32} {m_token : Int32} {m_value : Int64} {m_faultAt : Int32} {m_allowed : Int32} {m_firstPair : Int32} {m_secondPair : Int32} {m_above : Int64} {m_below : Int64} {m_tongue : Nat → Int32} {m_fresh : Nat → Int32} {m_text : Nat → Int32} {x1 : Int32} (C0 : gm_C p s m args meth c (dC, dI) [(cI, .int)] A gm_T RX11 cX11_read 3 (some .int) wsX11_read) {N : Nat} {out : Int32 × Int32 × Int32 × Int32 × Int32 × Int64 × Int32 × (Nat → Int32) × (Nat → Int32)}    {H : Heap} {locs : List Loc} {ls : Array Slot} (h : fX11_read_b61 N  m_thrown m_size m_at m_start m_token m_value m_faultAt m_tongue m_fresh m_text x1 = some out) (hH : gm_H (dC, dI) A s (wX11_read cI q q_tongue q_fresh q_text q_refused q_kept q_isKept q_said q_talk m_thrown m_size m_at m_start m_token m_value m_faultAt m_allowed m_firstPair m_secondPair m_above m_below m_tongue m_fresh m_text) H locs) (hl : lv_has ls 3 [(0, .ref q), (1, .int x1)]) : W p l e rX11_read s m args below meth c H locs 0 0 (MQ below (gm_Q (dC, dI) [(cI, .int)] A (some (.int out.1)) (wX11_read cI q q_tongue q_fresh q_text q_refused q_kept q_isKept q_said q_talk out.2.1 m_size out.2.2.1 out.2.2.2.1 out.2.2.2.2.1 out.2.2.2.2.2.1 out.2.2.2.2.2.2.1 m_allowed m_firstPair m_secondPair m_above m_below out.2.2.2.2.2.2.2.1 out.2.2.2.2.2.2.2.2 m_text)) args s 0 0 A) (F0 m 61 ls []) := by
  obtain ⟨hx, hb, hml, hr, hown, hts, hA, hK, hX, hlocks⟩ := id C0
  unfold fX11_read_b61 at h
  refine lv_aload_n hx hb dX11_read_61 rfl (lv_at hl 0 rfl) ?_
  obtain ⟨o4, ho4, h⟩ := gm_bind_e h
  refine gm_callV (As := []) (rest := []) (n := 0) (ci := 11) (q0 := 0) C0 hH (mX11_faultHere l dC dI  q q_refused q_tongue q_fresh q_kept q_isKept q_text q_said q_talk m_thrown m_size m_at m_start m_token m_value m_faultAt m_allowed m_firstPair m_secondPair m_above m_below    ho4) gX11_read_X11_faultHere rfl (by decide +kernel) ⟨rfl, rfl, Nat.le_of_ble_eq_true rfl, Nat.le_of_ble_eq_true rfl⟩ gm_T_ok (fun _ => trivial) [0] rfl rfl rfl [] rfl rfl rfl rfl hl.1 rfl (Nat.le_of_ble_eq_true rfl) dX11_read_62 ⟨Nat.zero_le _, Nat.zero_le _⟩ (fun H locs hH => ?_)
  have hH : gm_H (dC, dI) A s (wX11_read cI q q_tongue q_fresh q_text q_refused q_kept q_isKept q_said q_talk m_thrown m_size m_at m_start m_token m_value o4 m_allowed m_firstPair m_secondPair m_above m_below m_tongue m_fresh m_text) H locs := hH
  refine lv_goto (tgt := 79) hx hb dX11_read_65 (by decide) ?_
  unfold fX11_read_b79 at h
  exact tX11_read_b79 C0  _ _ _ _ _ _ _ _ _ _ _ h hH (lv_sub hl [0, 1] rfl)
set_option maxRecDepth 100000 in
set_option maxHeartbeats 4000000 in
theorem tX11_read_b26 {p : Program} {l : Launch} {e : Env} {s : State} {m : MethodId} {args : Array Value} {below : List Frame} {meth : Method} {c : Code} {A : Nat → Prop} {dC : Nat → ClassId} {dI : Nat → Nat → Nat} {cI : ClassId} {q q_tongue q_fresh q_text q_refused q_kept q_isKept q_said q_talk : Nat} {m_thrown : Int32} {m_size : Int32} {m_at : Int32} {m_start : Int32} {m_token : Int32} {m_value : Int64} {m_faultAt : Int32} {m_allowed : Int32} {m_firstPair : Int32} {m_secondPair : Int32} {m_above : Int64} {m_below : Int64} {m_tongue : Nat → Int32} {m_fresh : Nat → Int32} {m_text : Nat → Int32} (C0 : gm_C p s m args meth c (dC, dI) [(cI, .int)] A gm_T RX11 cX11_read 3 (some .int) wsX11_read) {N : Nat} {out : Int32 × Int32 × Int32 × Int32 × Int32 × Int64 × Int32 × (Nat → Int32) × (Nat → Int32)}    {H : Heap} {locs : List Loc} {ls : Array Slot} (h : fX11_read_b26 N  m_thrown m_size m_at m_start m_token m_value m_faultAt m_tongue m_fresh m_text = some out) (hH : gm_H (dC, dI) A s (wX11_read cI q q_tongue q_fresh q_text q_refused q_kept q_isKept q_said q_talk m_thrown m_size m_at m_start m_token m_value m_faultAt m_allowed m_firstPair m_secondPair m_above m_below m_tongue m_fresh m_text) H locs) (hl : lv_has ls 3 [(0, .ref q)]) : W p l e rX11_read s m args below meth c H locs 0 0 (MQ below (gm_Q (dC, dI) [(cI, .int)] A (some (.int out.1)) (wX11_read cI q q_tongue q_fresh q_text q_refused q_kept q_isKept q_said q_talk out.2.1 m_size out.2.2.1 out.2.2.2.1 out.2.2.2.2.1 out.2.2.2.2.2.1 out.2.2.2.2.2.2.1 m_allowed m_firstPair m_secondPair m_above m_below out.2.2.2.2.2.2.2.1 out.2.2.2.2.2.2.2.2 m_text)) args s 0 0 A) (F0 m 26 ls []) := by
  obtain ⟨hx, hb, hml, hr, hown, hts, hA, hK, hX, hlocks⟩ := id C0
  unfold fX11_read_b26 at h
  refine lv_aload_n hx hb dX11_read_26 rfl (lv_at hl 0 rfl) ?_
  refine lv_iconst (v := 0) hx hb dX11_read_27 (by decide) ?_
  refine gm_putf (ci := 11) C0 hH inX11_read_X11 tyX11_ok nmX11 0 8 3 rfl rfl (by decide) rfl rfl rfl rfl rfl (Nat.le_of_ble_eq_true rfl) dX11_read_28 (fun H locs hH => ?_)
  have hH : gm_H (dC, dI) A s (wX11_read cI q q_tongue q_fresh q_text q_refused q_kept q_isKept q_said q_talk m_thrown m_size 0 m_start m_token m_value m_faultAt m_allowed m_firstPair m_secondPair m_above m_below m_tongue m_fresh m_text) H locs := hH
  refine lv_aload_n hx hb dX11_read_31 rfl (lv_at hl 0 rfl) ?_
  refine lv_iconst (v := (-1)) hx hb dX11_read_32 (by decide) ?_
  refine gm_putf (ci := 11) C0 hH inX11_read_X11 tyX11_ok nmX11 0 12 4 rfl rfl (by decide) rfl rfl rfl rfl rfl (Nat.le_of_ble_eq_true rfl) dX11_read_33 (fun H locs hH => ?_)
  have hH : gm_H (dC, dI) A s (wX11_read cI q q_tongue q_fresh q_text q_refused q_kept q_isKept q_said q_talk m_thrown m_size 0 m_start m_token m_value ((-1)) m_allowed m_firstPair m_secondPair m_above m_below m_tongue m_fresh m_text) H locs := hH
  refine lv_iconst (v := 0) hx hb dX11_read_36 (by decide) ?_
  refine lv_istore_n (lv' := [(1, .int 0), (0, .ref q)]) hx hb dX11_read_37 rfl hl (by decide) rfl (fun ls hl => ?_)
  refine lv_aload_n hx hb dX11_read_38 rfl (lv_at hl 1 rfl) ?_
  obtain ⟨o2, ho2, h⟩ := gm_bind_e h
  refine gm_callV (As := []) (rest := []) (n := 0) (ci := 11) (q0 := 0) C0 hH (mX11_next l dC dI cI q q_text q_refused q_tongue q_fresh q_kept q_isKept q_said q_talk m_thrown m_size 0 m_start m_token m_value ((-1)) m_allowed m_firstPair m_secondPair m_above m_below m_text    ho2) gX11_read_X11_next rfl (by decide +kernel) ⟨rfl, rfl, Nat.le_of_ble_eq_true rfl, Nat.le_of_ble_eq_true rfl⟩ gm_T_ok (fun _ => trivial) [0, 3] rfl rfl rfl [0] rfl rfl rfl rfl hl.1 rfl (Nat.le_of_ble_eq_true rfl) dX11_read_39 ⟨Nat.zero_le _, Nat.zero_le _⟩ (fun H locs hH => ?_)
  have hH : gm_H (dC, dI) A s (wX11_read cI q q_tongue q_fresh q_text q_refused q_kept q_isKept q_said q_talk m_thrown m_size o2.1 o2.2.1 o2.2.2.1 o2.2.2.2 ((-1)) m_allowed m_firstPair m_secondPair m_above m_below m_tongue m_fresh m_text) H locs := hH
  refine lv_aload_n hx hb dX11_read_42 rfl (lv_at hl 1 rfl) ?_
  refine gm_get (ci := 11) C0 hH inX11_read_X11 0 10 5 rfl rfl (by decide) rfl rfl dX11_read_43 ?_
  refine lv_iconst (v := 2) hx hb dX11_read_46 (by decide) ?_
  refine lv_icmp_ne (tgt := 61) hx hb dX11_read_47 (by decide) (fun hc3 => ?_) (fun hc3 => ?_)
  · replace h := gm_neg hc3 h
    exact tX11_read_b61 C0  h hH (lv_sub hl [1, 0] rfl)
  · replace h := gm_pos hc3 h
    refine lv_aload_n hx hb dX11_read_50 rfl (lv_at hl 1 rfl) ?_
    refine gm_get (ci := 11) C0 hH inX11_read_X11 0 11 6 rfl rfl (by decide) rfl rfl dX11_read_51 ?_
    refine lv_ldc2 (own := RX11) (v := 295230992) hx hb hown (gm_at C0 7 rfl) dX11_read_54 ?_
    refine W.lcmp hx hb dX11_read_57 ?_
    refine lv_if_eq (tgt := 68) hx hb dX11_read_58 (by decide) (fun hc12 => ?_) (fun hc12 => ?_)
    · replace h := gm_pos hc12 h
      refine lv_aload_n hx hb dX11_read_68 rfl (lv_at hl 1 rfl) ?_
      obtain ⟨o13, ho13, h⟩ := gm_bind_e h
      refine gm_callV (As := []) (rest := []) (n := 0) (ci := 11) (q0 := 0) C0 hH (mX11_next l dC dI cI q q_text q_refused q_tongue q_fresh q_kept q_isKept q_said q_talk m_thrown m_size o2.1 o2.2.1 o2.2.2.1 o2.2.2.2 ((-1)) m_allowed m_firstPair m_secondPair m_above m_below m_text    ho13) gX11_read_X11_next rfl (by decide +kernel) ⟨rfl, rfl, Nat.le_of_ble_eq_true rfl, Nat.le_of_ble_eq_true rfl⟩ gm_T_ok (fun _ => trivial) [0, 3] rfl rfl rfl [0] rfl rfl rfl rfl hl.1 rfl (Nat.le_of_ble_eq_true rfl) dX11_read_69 ⟨Nat.zero_le _, Nat.zero_le _⟩ (fun H locs hH => ?_)
      have hH : gm_H (dC, dI) A s (wX11_read cI q q_tongue q_fresh q_text q_refused q_kept q_isKept q_said q_talk m_thrown m_size o13.1 o13.2.1 o13.2.2.1 o13.2.2.2 ((-1)) m_allowed m_firstPair m_secondPair m_above m_below m_tongue m_fresh m_text) H locs := hH
      refine lv_aload_n hx hb dX11_read_72 rfl (lv_at hl 1 rfl) ?_
      obtain ⟨o14, ho14, h⟩ := gm_bind_e h
      refine gm_callV (As := []) (rest := []) (n := 0) (ci := 11) (q0 := 0) C0 hH (mX11_sign l dC dI cI q q_text q_refused q_tongue q_fresh q_kept q_isKept q_said q_talk m_thrown m_size o13.1 o13.2.1 o13.2.2.1 o13.2.2.2 ((-1)) m_allowed m_firstPair m_secondPair m_above m_below m_text    ho14) gX11_read_X11_sign rfl (by decide +kernel) ⟨rfl, rfl, Nat.le_of_ble_eq_true rfl, Nat.le_of_ble_eq_true rfl⟩ gm_T_ok (fun _ => trivial) [0, 3] rfl rfl rfl [0] rfl rfl rfl rfl hl.1 rfl (Nat.le_of_ble_eq_true rfl) dX11_read_73 ⟨Nat.zero_le _, Nat.zero_le _⟩ (fun H locs hH => ?_)
      have hH : gm_H (dC, dI) A s (wX11_read cI q q_tongue q_fresh q_text q_refused q_kept q_isKept q_said q_talk m_thrown m_size o14.1 o14.2.1 o14.2.2.1 o14.2.2.2.1 o14.2.2.2.2 m_allowed m_firstPair m_secondPair m_above m_below m_tongue m_fresh m_text) H locs := hH
      refine lv_iinc (v := (0 + 1)) (lv' := [(1, .int (0 + 1)), (0, .ref q)]) hx hb dX11_read_76 hl (k := 0) rfl rfl (by decide) rfl (fun ls hl => ?_)
      unfold fX11_read_b79 at h
      exact tX11_read_b79 C0  _ _ _ _ _ _ _ _ _ _ _ h hH (lv_sub hl [1, 0] rfl)
    · replace h := gm_neg hc12 h
      exact tX11_read_b61 C0  h hH (lv_sub hl [1, 0] rfl)
set_option maxRecDepth 100000 in
set_option maxHeartbeats 4000000 in
theorem tX11_read_b7 {p : Program} {l : Launch} {e : Env} {s : State} {m : MethodId} {args : Array Value} {below : List Frame} {meth : Method} {c : Code} {A : Nat → Prop} {dC : Nat → ClassId} {dI : Nat → Nat → Nat} {cI : ClassId} {q q_tongue q_fresh q_text q_refused q_kept q_isKept q_said q_talk : Nat} {m_thrown : Int32} {m_size : Int32} {m_at : Int32} {m_start : Int32} {m_token : Int32} {m_value : Int64} {m_faultAt : Int32} {m_allowed : Int32} {m_firstPair : Int32} {m_secondPair : Int32} {m_above : Int64} {m_below : Int64} {m_tongue : Nat → Int32} {m_text : Nat → Int32} (C0 : gm_C p s m args meth c (dC, dI) [(cI, .int)] A gm_T RX11 cX11_read 3 (some .int) wsX11_read) {N : Nat} {out : Int32 × Int32 × Int32 × Int32 × Int32 × Int64 × Int32 × (Nat → Int32) × (Nat → Int32)}   : ∀ (n : Nat), ∀ (m_fresh : Nat → Int32) (x1 : Int32) (H : Heap) (locs : List Loc) (ls : Array Slot), (gm_fix (fX11_read_b7_body N  m_thrown m_size m_at m_start m_token m_value m_faultAt m_tongue m_text) (fun _ _ => none) n) m_fresh x1 = some out → gm_H (dC, dI) A s (wX11_read cI q q_tongue q_fresh q_text q_refused q_kept q_isKept q_said q_talk m_thrown m_size m_at m_start m_token m_value m_faultAt m_allowed m_firstPair m_secondPair m_above m_below m_tongue m_fresh m_text) H locs → lv_has ls 3 [(0, .ref q), (1, .int x1)] → W p l e rX11_read s m args below meth c H locs 0 0 (MQ below (gm_Q (dC, dI) [(cI, .int)] A (some (.int out.1)) (wX11_read cI q q_tongue q_fresh q_text q_refused q_kept q_isKept q_said q_talk out.2.1 m_size out.2.2.1 out.2.2.2.1 out.2.2.2.2.1 out.2.2.2.2.2.1 out.2.2.2.2.2.2.1 m_allowed m_firstPair m_secondPair m_above m_below out.2.2.2.2.2.2.2.1 out.2.2.2.2.2.2.2.2 m_text)) args s 0 0 A) (F0 m 7 ls []) := by
  obtain ⟨hx, hb, hml, hr, hown, hts, hA, hK, hX, hlocks⟩ := id C0
  intro n
  induction n with
  | zero =>
    intro m_fresh x1 H locs ls h hH hl
    cases h
  | succ n hr7 =>
    intro m_fresh x1 H locs ls h hH hl
    rw [gm_fix_s] at h
    unfold fX11_read_b7_body at h
    refine lv_iload_n hx hb dX11_read_7 rfl (lv_at hl 1 rfl) ?_
    refine lv_bipush (v := 73) hx hb dX11_read_8 (by decide) ?_
    refine lv_icmp_ge (tgt := 26) hx hb dX11_read_10 (by decide) (fun hc1 => ?_) (fun hc1 => ?_)
    · replace h := gm_pos hc1 h
      exact tX11_read_b26 C0  h hH (lv_sub hl [0] rfl)
    · replace h := gm_neg hc1 h
      refine lv_aload_n hx hb dX11_read_13 rfl (lv_at hl 0 rfl) ?_
      refine gm_get (ci := 11) C0 hH inX11_read_X11 0 3 2 rfl rfl (by decide) rfl rfl dX11_read_14 ?_
      refine lv_iload_n hx hb dX11_read_17 rfl (lv_at hl 1 rfl) ?_
      refine lv_iconst (v := 0) hx hb dX11_read_18 (by decide) ?_
      obtain ⟨hi15, h⟩ := gm_chk_e h
      refine gm_iast C0 hH hi15 2 0 rfl rfl dX11_read_19 (fun H locs hH => ?_)
      have hH : gm_H (dC, dI) A s (wX11_read cI q q_tongue q_fresh q_text q_refused q_kept q_isKept q_said q_talk m_thrown m_size m_at m_start m_token m_value m_faultAt m_allowed m_firstPair m_secondPair m_above m_below m_tongue (upd m_fresh (Int32.toNatClampNeg x1) 0) m_text) H locs := hH
      refine lv_iinc (v := (x1 + 1)) (lv' := [(1, .int (x1 + 1)), (0, .ref q)]) hx hb dX11_read_20 hl (k := 1) rfl rfl (by decide) rfl (fun ls hl => ?_)
      refine lv_goto (tgt := 7) hx hb dX11_read_23 (by decide) ?_
      exact hr7 _ _ _ _ _ h hH (lv_sub hl [1, 0] rfl)
set_option maxRecDepth 100000 in
set_option maxHeartbeats 4000000 in
theorem mX11_read (l : Launch) (dC : Nat → ClassId) (dI : Nat → Nat → Nat) (cI : ClassId) (q q_tongue q_fresh q_text q_refused q_kept q_isKept q_said q_talk : Nat) (m_thrown : Int32) (m_size : Int32) (m_at : Int32) (m_start : Int32) (m_token : Int32) (m_value : Int64) (m_faultAt : Int32) (m_allowed : Int32) (m_firstPair : Int32) (m_secondPair : Int32) (m_above : Int64) (m_below : Int64) (m_tongue : Nat → Int32) (m_fresh : Nat → Int32) (m_text : Nat → Int32)   {N : Nat} {out : Int32 × Int32 × Int32 × Int32 × Int32 × Int64 × Int32 × (Nat → Int32) × (Nat → Int32)} (h : fX11_read N m_thrown m_size m_at m_start m_token m_value m_faultAt m_tongue m_fresh m_text = some out) : gm_Met l yX11_read wsX11_read rX11_read (dC, dI) [(cI, .int)] gm_T [.ref q] (wX11_read cI q q_tongue q_fresh q_text q_refused q_kept q_isKept q_said q_talk m_thrown m_size m_at m_start m_token m_value m_faultAt m_allowed m_firstPair m_secondPair m_above m_below m_tongue m_fresh m_text) (some (.int out.1)) (wX11_read cI q q_tongue q_fresh q_text q_refused q_kept q_isKept q_said q_talk out.2.1 m_size out.2.2.1 out.2.2.2.1 out.2.2.2.2.1 out.2.2.2.2.2.1 out.2.2.2.2.2.2.1 m_allowed m_firstPair m_secondPair m_above m_below out.2.2.2.2.2.2.2.1 out.2.2.2.2.2.2.2.2 m_text) := by
  refine gm_ofW (cc := cX11_read) (maxL := 3) (ret := (some .int)) (by decide +kernel) rfl (Nat.le_of_ble_eq_true rfl) ?_
  intro p e s m below meth c A C0 hH ls hl
  generalize ([.ref q] : List Value).toArray = args at C0 ⊢
  have hl : lv_has ls 3 [(0, .ref q)] := hl
  generalize s.heap = H at hH ⊢
  generalize ([] : List Loc) = locs at hH ⊢
  obtain ⟨hx, hb, hml, hr, hown, hts, hA, hK, hX, hlocks⟩ := id C0
  unfold fX11_read at h
  refine lv_aload_n hx hb dX11_read_0 rfl (lv_at hl 0 rfl) ?_
  refine lv_iconst (v := 0) hx hb dX11_read_1 (by decide) ?_
  refine gm_putf (ci := 11) C0 hH inX11_read_X11 tyX11_ok nmX11 0 0 1 rfl rfl (by decide) rfl rfl rfl rfl rfl (Nat.le_of_ble_eq_true rfl) dX11_read_2 (fun H locs hH => ?_)
  have hH : gm_H (dC, dI) A s (wX11_read cI q q_tongue q_fresh q_text q_refused q_kept q_isKept q_said q_talk 0 m_size m_at m_start m_token m_value m_faultAt m_allowed m_firstPair m_secondPair m_above m_below m_tongue m_fresh m_text) H locs := hH
  refine lv_iconst (v := 0) hx hb dX11_read_5 (by decide) ?_
  refine lv_istore_n (lv' := [(1, .int 0), (0, .ref q)]) hx hb dX11_read_6 rfl hl (by decide) rfl (fun ls hl => ?_)
  unfold fX11_read_b7 at h
  exact tX11_read_b7 C0  _ _ _ _ _ _ h hH (lv_sub hl [1, 0] rfl)

/-! X11_rhymes -/
abbrev wX11_rhymes (cI : ClassId) (q q_tongue q_refused q_fresh q_kept q_isKept q_text q_said q_talk : Nat) (m_thrown : Int32) (m_size : Int32) (m_at : Int32) (m_start : Int32) (m_token : Int32) (m_value : Int64) (m_faultAt : Int32) (m_allowed : Int32) (m_firstPair : Int32) (m_secondPair : Int32) (m_above : Int64) (m_below : Int64) (m_tongue : Nat → Int32) : va_W := [(q, .inr (11, [.int m_thrown, .ref q_refused, .ref q_tongue, .ref q_fresh, .ref q_kept, .ref q_isKept, .ref q_text, .int m_size, .int m_at, .int m_start, .int m_token, .long m_value, .int m_faultAt, .ref q_said, .ref q_talk, .int m_allowed, .int m_firstPair, .int m_secondPair, .long m_above, .long m_below])), (q_tongue, .inl (cI, 73, .inl m_tongue))]
abbrev rX11_rhymes : Room := { frames := 1, cells := 0, slots := 0, locals := 21 }
def fX11_rhymes (N : Nat) (m_tongue : Nat → Int32) (x1 : Int32) (x2 : Int32) : Option (Int32) := gm_bind (fX11_ending N m_tongue x1) (fun o1 => gm_bind (fX11_ending N m_tongue x2) (fun o2 => (if o1 = o2 then (if x1 = x2 then some (0) else some (1)) else some (0))))
set_option maxRecDepth 20000 in
theorem inX11_rhymes_X11 : ∀ w ∈ u_ws RX11 TX11 20, w ∈ wsX11_rhymes := fun w h => by
  obtain ⟨k, hk, rfl⟩ := List.mem_map.mp h
  have hk2 := List.mem_range.mp hk
  exact List.mem_of_getElem? (i := 7 + k) (by rcases (show k = 0 ∨ k = 1 ∨ k = 2 ∨ k = 3 ∨ k = 4 ∨ k = 5 ∨ k = 6 ∨ k = 7 ∨ k = 8 ∨ k = 9 ∨ k = 10 ∨ k = 11 ∨ k = 12 ∨ k = 13 ∨ k = 14 ∨ k = 15 ∨ k = 16 ∨ k = 17 ∨ k = 18 ∨ k = 19 by omega) with rfl | rfl | rfl | rfl | rfl | rfl | rfl | rfl | rfl | rfl | rfl | rfl | rfl | rfl | rfl | rfl | rfl | rfl | rfl | rfl <;> rfl)
set_option maxRecDepth 100000 in
set_option maxHeartbeats 4000000 in
theorem mX11_rhymes (l : Launch) (dC : Nat → ClassId) (dI : Nat → Nat → Nat) (cI : ClassId) (q q_tongue q_refused q_fresh q_kept q_isKept q_text q_said q_talk : Nat) (m_thrown : Int32) (m_size : Int32) (m_at : Int32) (m_start : Int32) (m_token : Int32) (m_value : Int64) (m_faultAt : Int32) (m_allowed : Int32) (m_firstPair : Int32) (m_secondPair : Int32) (m_above : Int64) (m_below : Int64) (m_tongue : Nat → Int32) (x1 : Int32) (x2 : Int32)  {N : Nat} {out : Int32} (h : fX11_rhymes N m_tongue x1 x2 = some out) : gm_Met l yX11_rhymes wsX11_rhymes rX11_rhymes (dC, dI) [(cI, .int)] gm_T [.ref q, .int x1, .int x2] (wX11_rhymes cI q q_tongue q_refused q_fresh q_kept q_isKept q_text q_said q_talk m_thrown m_size m_at m_start m_token m_value m_faultAt m_allowed m_firstPair m_secondPair m_above m_below m_tongue) (some (.int out)) (wX11_rhymes cI q q_tongue q_refused q_fresh q_kept q_isKept q_text q_said q_talk m_thrown m_size m_at m_start m_token m_value m_faultAt m_allowed m_firstPair m_secondPair m_above m_below m_tongue) := by
  refine gm_ofW (cc := cX11_rhymes) (maxL := 3) (ret := (some .boolean)) (by decide +kernel) rfl (Nat.le_of_ble_eq_true rfl) ?_
  intro p e s m below meth c A C0 hH ls hl
  generalize ([.ref q, .int x1, .int x2] : List Value).toArray = args at C0 ⊢
  have hl : lv_has ls 3 [(0, .ref q), (1, .int x1), (2, .int x2)] := hl
  generalize s.heap = H at hH ⊢
  generalize ([] : List Loc) = locs at hH ⊢
  obtain ⟨hx, hb, hml, hr, hown, hts, hA, hK, hX, hlocks⟩ := id C0
  unfold fX11_rhymes at h
  refine lv_aload_n hx hb dX11_rhymes_0 rfl (lv_at hl 0 rfl) ?_
  refine lv_iload_n hx hb dX11_rhymes_1 rfl (lv_at hl 1 rfl) ?_
  obtain ⟨o1, ho1, h⟩ := gm_bind_e h
  refine gm_callV (As := [.int x1]) (rest := []) (n := 1) (ci := 11) (q0 := 0) C0 hH (mX11_ending l dC dI cI q q_tongue q_refused q_fresh q_kept q_isKept q_text q_said q_talk m_thrown m_size m_at m_start m_token m_value m_faultAt m_allowed m_firstPair m_secondPair m_above m_below m_tongue x1   ho1) gX11_rhymes_X11_ending rfl (by decide +kernel) ⟨rfl, rfl, Nat.le_of_ble_eq_true rfl, Nat.le_of_ble_eq_true rfl⟩ gm_T_ok (fun _ => trivial) [0, 1] rfl rfl rfl [0] rfl rfl rfl rfl hl.1 rfl (Nat.le_of_ble_eq_true rfl) dX11_rhymes_2 ⟨Nat.zero_le _, Nat.zero_le _⟩ (fun H locs hH => ?_)
  have hH : gm_H (dC, dI) A s (wX11_rhymes cI q q_tongue q_refused q_fresh q_kept q_isKept q_text q_said q_talk m_thrown m_size m_at m_start m_token m_value m_faultAt m_allowed m_firstPair m_secondPair m_above m_below m_tongue) H locs := hH
  refine lv_aload_n hx hb dX11_rhymes_5 rfl (lv_at hl 0 rfl) ?_
  refine lv_iload_n hx hb dX11_rhymes_6 rfl (lv_at hl 2 rfl) ?_
  obtain ⟨o2, ho2, h⟩ := gm_bind_e h
  refine gm_callV (As := [.int x2]) (rest := [.int o1]) (n := 1) (ci := 11) (q0 := 0) C0 hH (mX11_ending l dC dI cI q q_tongue q_refused q_fresh q_kept q_isKept q_text q_said q_talk m_thrown m_size m_at m_start m_token m_value m_faultAt m_allowed m_firstPair m_secondPair m_above m_below m_tongue x2   ho2) gX11_rhymes_X11_ending rfl (by decide +kernel) ⟨rfl, rfl, Nat.le_of_ble_eq_true rfl, Nat.le_of_ble_eq_true rfl⟩ gm_T_ok (fun _ => trivial) [0, 1] rfl rfl rfl [0] rfl rfl rfl rfl hl.1 rfl (Nat.le_of_ble_eq_true rfl) dX11_rhymes_7 ⟨Nat.zero_le _, Nat.zero_le _⟩ (fun H locs hH => ?_)
  have hH : gm_H (dC, dI) A s (wX11_rhymes cI q q_tongue q_refused q_fresh q_kept q_isKept q_text q_said q_talk m_thrown m_size m_at m_start m_token m_value m_faultAt m_allowed m_firstPair m_secondPair m_above m_below m_tongue) H locs := hH
  refine lv_icmp_ne (tgt := 22) hx hb dX11_rhymes_10 (by decide) (fun hc3 => ?_) (fun hc3 => ?_)
  · replace h := gm_neg hc3 h
    refine lv_iconst (v := 0) hx hb dX11_rhymes_22 (by decide) ?_
    obtain rfl := Option.some.inj h
    exact gm_zret C0 hH (show narrow .boolean (.int 0) = .int 0 by decide) dX11_rhymes_23
  · replace h := gm_pos hc3 h
    refine lv_iload_n hx hb dX11_rhymes_13 rfl (lv_at hl 1 rfl) ?_
    refine lv_iload_n hx hb dX11_rhymes_14 rfl (lv_at hl 2 rfl) ?_
    refine lv_icmp_eq (tgt := 22) hx hb dX11_rhymes_15 (by decide) (fun hc4 => ?_) (fun hc4 => ?_)
    · replace h := gm_pos hc4 h
      refine lv_iconst (v := 0) hx hb dX11_rhymes_22 (by decide) ?_
      obtain rfl := Option.some.inj h
      exact gm_zret C0 hH (show narrow .boolean (.int 0) = .int 0 by decide) dX11_rhymes_23
    · replace h := gm_neg hc4 h
      refine lv_iconst (v := 1) hx hb dX11_rhymes_18 (by decide) ?_
      refine lv_goto (tgt := 23) hx hb dX11_rhymes_19 (by decide) ?_
      obtain rfl := Option.some.inj h
      exact gm_zret C0 hH (show narrow .boolean (.int 1) = .int 1 by decide) dX11_rhymes_23

/-! X11_isHalf -/
abbrev wX11_isHalf (cI : ClassId) (q q_tongue q_refused q_fresh q_kept q_isKept q_text q_said q_talk : Nat) (m_thrown : Int32) (m_size : Int32) (m_at : Int32) (m_start : Int32) (m_token : Int32) (m_value : Int64) (m_faultAt : Int32) (m_allowed : Int32) (m_firstPair : Int32) (m_secondPair : Int32) (m_above : Int64) (m_below : Int64) (m_tongue : Nat → Int32) : va_W := [(q, .inr (11, [.int m_thrown, .ref q_refused, .ref q_tongue, .ref q_fresh, .ref q_kept, .ref q_isKept, .ref q_text, .int m_size, .int m_at, .int m_start, .int m_token, .long m_value, .int m_faultAt, .ref q_said, .ref q_talk, .int m_allowed, .int m_firstPair, .int m_secondPair, .long m_above, .long m_below])), (q_tongue, .inl (cI, 73, .inl m_tongue))]
abbrev rX11_isHalf : Room := { frames := 2, cells := 0, slots := 0, locals := 43 }
def fX11_isHalf_b33 (N : Nat)   : Option (Int32) := some (1)
def fX11_isHalf (N : Nat) (m_tongue : Nat → Int32) (x1 : Int32) (x2 : Int32) : Option (Int32) := gm_bind (fX11_rhymes N m_tongue x1 x2) (fun o1 => (if o1 = 0 then gm_bind (fX11_ending N m_tongue x1) (fun o3 => gm_chk ((45 + o3)) 73 (gm_bind (fX11_ending N m_tongue x2) (fun o5 => gm_bind (fX11_has N ((m_tongue (Int32.toNatClampNeg ((45 + o3))))) o5) (fun o6 => (if o6 = 0 then some (0) else (fX11_isHalf_b33 N  )))))) else (fX11_isHalf_b33 N  )))
set_option maxRecDepth 20000 in
theorem inX11_isHalf_X11 : ∀ w ∈ u_ws RX11 TX11 20, w ∈ wsX11_isHalf := fun w h => by
  obtain ⟨k, hk, rfl⟩ := List.mem_map.mp h
  have hk2 := List.mem_range.mp hk
  exact List.mem_of_getElem? (i := 14 + k) (by rcases (show k = 0 ∨ k = 1 ∨ k = 2 ∨ k = 3 ∨ k = 4 ∨ k = 5 ∨ k = 6 ∨ k = 7 ∨ k = 8 ∨ k = 9 ∨ k = 10 ∨ k = 11 ∨ k = 12 ∨ k = 13 ∨ k = 14 ∨ k = 15 ∨ k = 16 ∨ k = 17 ∨ k = 18 ∨ k = 19 by omega) with rfl | rfl | rfl | rfl | rfl | rfl | rfl | rfl | rfl | rfl | rfl | rfl | rfl | rfl | rfl | rfl | rfl | rfl | rfl | rfl <;> rfl)
set_option maxRecDepth 100000 in
set_option maxHeartbeats 4000000 in
theorem tX11_isHalf_b33 {p : Program} {l : Launch} {e : Env} {s : State} {m : MethodId} {args : Array Value} {below : List Frame} {meth : Method} {c : Code} {A : Nat → Prop} {dC : Nat → ClassId} {dI : Nat → Nat → Nat} {cI : ClassId} {q q_tongue q_refused q_fresh q_kept q_isKept q_text q_said q_talk : Nat} {m_thrown : Int32} {m_size : Int32} {m_at : Int32} {m_start : Int32} {m_token : Int32} {m_value : Int64} {m_faultAt : Int32} {m_allowed : Int32} {m_firstPair : Int32} {m_secondPair : Int32} {m_above : Int64} {m_below : Int64} {m_tongue : Nat → Int32} (C0 : gm_C p s m args meth c (dC, dI) [(cI, .int)] A gm_T RX11 cX11_isHalf 3 (some .boolean) wsX11_isHalf) {N : Nat} {out : Int32}    {H : Heap} {locs : List Loc} {ls : Array Slot} (h : fX11_isHalf_b33 N   = some out) (hH : gm_H (dC, dI) A s (wX11_isHalf cI q q_tongue q_refused q_fresh q_kept q_isKept q_text q_said q_talk m_thrown m_size m_at m_start m_token m_value m_faultAt m_allowed m_firstPair m_secondPair m_above m_below m_tongue) H locs) (hl : lv_has ls 3 []) : W p l e rX11_isHalf s m args below meth c H locs 0 0 (MQ below (gm_Q (dC, dI) [(cI, .int)] A (some (.int out)) (wX11_isHalf cI q q_tongue q_refused q_fresh q_kept q_isKept q_text q_said q_talk m_thrown m_size m_at m_start m_token m_value m_faultAt m_allowed m_firstPair m_secondPair m_above m_below m_tongue)) args s 0 0 A) (F0 m 33 ls []) := by
  obtain ⟨hx, hb, hml, hr, hown, hts, hA, hK, hX, hlocks⟩ := id C0
  unfold fX11_isHalf_b33 at h
  refine lv_iconst (v := 1) hx hb dX11_isHalf_33 (by decide) ?_
  refine lv_goto (tgt := 38) hx hb dX11_isHalf_34 (by decide) ?_
  obtain rfl := Option.some.inj h
  exact gm_zret C0 hH (show narrow .boolean (.int 1) = .int 1 by decide) dX11_isHalf_38
set_option maxRecDepth 100000 in
set_option maxHeartbeats 4000000 in
theorem mX11_isHalf (l : Launch) (dC : Nat → ClassId) (dI : Nat → Nat → Nat) (cI : ClassId) (q q_tongue q_refused q_fresh q_kept q_isKept q_text q_said q_talk : Nat) (m_thrown : Int32) (m_size : Int32) (m_at : Int32) (m_start : Int32) (m_token : Int32) (m_value : Int64) (m_faultAt : Int32) (m_allowed : Int32) (m_firstPair : Int32) (m_secondPair : Int32) (m_above : Int64) (m_below : Int64) (m_tongue : Nat → Int32) (x1 : Int32) (x2 : Int32)  {N : Nat} {out : Int32} (h : fX11_isHalf N m_tongue x1 x2 = some out) : gm_Met l yX11_isHalf wsX11_isHalf rX11_isHalf (dC, dI) [(cI, .int)] gm_T [.ref q, .int x1, .int x2] (wX11_isHalf cI q q_tongue q_refused q_fresh q_kept q_isKept q_text q_said q_talk m_thrown m_size m_at m_start m_token m_value m_faultAt m_allowed m_firstPair m_secondPair m_above m_below m_tongue) (some (.int out)) (wX11_isHalf cI q q_tongue q_refused q_fresh q_kept q_isKept q_text q_said q_talk m_thrown m_size m_at m_start m_token m_value m_faultAt m_allowed m_firstPair m_secondPair m_above m_below m_tongue) := by
  refine gm_ofW (cc := cX11_isHalf) (maxL := 3) (ret := (some .boolean)) (by decide +kernel) rfl (Nat.le_of_ble_eq_true rfl) ?_
  intro p e s m below meth c A C0 hH ls hl
  generalize ([.ref q, .int x1, .int x2] : List Value).toArray = args at C0 ⊢
  have hl : lv_has ls 3 [(0, .ref q), (1, .int x1), (2, .int x2)] := hl
  generalize s.heap = H at hH ⊢
  generalize ([] : List Loc) = locs at hH ⊢
  obtain ⟨hx, hb, hml, hr, hown, hts, hA, hK, hX, hlocks⟩ := id C0
  unfold fX11_isHalf at h
  refine lv_aload_n hx hb dX11_isHalf_0 rfl (lv_at hl 0 rfl) ?_
  refine lv_iload_n hx hb dX11_isHalf_1 rfl (lv_at hl 1 rfl) ?_
  refine lv_iload_n hx hb dX11_isHalf_2 rfl (lv_at hl 2 rfl) ?_
  obtain ⟨o1, ho1, h⟩ := gm_bind_e h
  refine gm_callV (As := [.int x1, .int x2]) (rest := []) (n := 2) (ci := 11) (q0 := 0) C0 hH (mX11_rhymes l dC dI cI q q_tongue q_refused q_fresh q_kept q_isKept q_text q_said q_talk m_thrown m_size m_at m_start m_token m_value m_faultAt m_allowed m_firstPair m_secondPair m_above m_below m_tongue x1 x2   ho1) gX11_isHalf_X11_rhymes rfl (by decide +kernel) ⟨rfl, rfl, Nat.le_of_ble_eq_true rfl, Nat.le_of_ble_eq_true rfl⟩ gm_T_ok (fun _ => trivial) [0, 1] rfl rfl rfl [0] rfl rfl rfl rfl hl.1 rfl (Nat.le_of_ble_eq_true rfl) dX11_isHalf_3 ⟨Nat.zero_le _, Nat.zero_le _⟩ (fun H locs hH => ?_)
  have hH : gm_H (dC, dI) A s (wX11_isHalf cI q q_tongue q_refused q_fresh q_kept q_isKept q_text q_said q_talk m_thrown m_size m_at m_start m_token m_value m_faultAt m_allowed m_firstPair m_secondPair m_above m_below m_tongue) H locs := hH
  refine lv_if_ne (tgt := 33) hx hb dX11_isHalf_6 (by decide) (fun hc2 => ?_) (fun hc2 => ?_)
  · replace h := gm_neg hc2 h
    exact tX11_isHalf_b33 C0  h hH (lv_sub hl [] rfl)
  · replace h := gm_pos hc2 h
    refine lv_aload_n hx hb dX11_isHalf_9 rfl (lv_at hl 0 rfl) ?_
    refine gm_get (ci := 11) C0 hH inX11_isHalf_X11 0 2 1 rfl rfl (by decide) rfl rfl dX11_isHalf_10 ?_
    refine lv_bipush (v := 45) hx hb dX11_isHalf_13 (by decide) ?_
    refine lv_aload_n hx hb dX11_isHalf_15 rfl (lv_at hl 0 rfl) ?_
    refine lv_iload_n hx hb dX11_isHalf_16 rfl (lv_at hl 1 rfl) ?_
    obtain ⟨o3, ho3, h⟩ := gm_bind_e h
    refine gm_callV (As := [.int x1]) (rest := [.int 45, .ref q_tongue]) (n := 1) (ci := 11) (q0 := 0) C0 hH (mX11_ending l dC dI cI q q_tongue q_refused q_fresh q_kept q_isKept q_text q_said q_talk m_thrown m_size m_at m_start m_token m_value m_faultAt m_allowed m_firstPair m_secondPair m_above m_below m_tongue x1   ho3) gX11_isHalf_X11_ending rfl (by decide +kernel) ⟨rfl, rfl, Nat.le_of_ble_eq_true rfl, Nat.le_of_ble_eq_true rfl⟩ gm_T_ok (fun _ => trivial) [0, 1] rfl rfl rfl [0] rfl rfl rfl rfl hl.1 rfl (Nat.le_of_ble_eq_true rfl) dX11_isHalf_17 ⟨Nat.zero_le _, Nat.zero_le _⟩ (fun H locs hH => ?_)
    have hH : gm_H (dC, dI) A s (wX11_isHalf cI q q_tongue q_refused q_fresh q_kept q_isKept q_text q_said q_talk m_thrown m_size m_at m_start m_token m_value m_faultAt m_allowed m_firstPair m_secondPair m_above m_below m_tongue) H locs := hH
    refine lv_iadd hx hb dX11_isHalf_20 ?_
    obtain ⟨hi4, h⟩ := gm_chk_e h
    refine gm_iald C0 hH hi4 1 0 rfl rfl dX11_isHalf_21 ?_
    refine lv_aload_n hx hb dX11_isHalf_22 rfl (lv_at hl 0 rfl) ?_
    refine lv_iload_n hx hb dX11_isHalf_23 rfl (lv_at hl 2 rfl) ?_
    obtain ⟨o5, ho5, h⟩ := gm_bind_e h
    refine gm_callV (As := [.int x2]) (rest := [.int (m_tongue (Int32.toNatClampNeg ((45 + o3))))]) (n := 1) (ci := 11) (q0 := 0) C0 hH (mX11_ending l dC dI cI q q_tongue q_refused q_fresh q_kept q_isKept q_text q_said q_talk m_thrown m_size m_at m_start m_token m_value m_faultAt m_allowed m_firstPair m_secondPair m_above m_below m_tongue x2   ho5) gX11_isHalf_X11_ending rfl (by decide +kernel) ⟨rfl, rfl, Nat.le_of_ble_eq_true rfl, Nat.le_of_ble_eq_true rfl⟩ gm_T_ok (fun _ => trivial) [0, 1] rfl rfl rfl [0] rfl rfl rfl rfl hl.1 rfl (Nat.le_of_ble_eq_true rfl) dX11_isHalf_24 ⟨Nat.zero_le _, Nat.zero_le _⟩ (fun H locs hH => ?_)
    have hH : gm_H (dC, dI) A s (wX11_isHalf cI q q_tongue q_refused q_fresh q_kept q_isKept q_text q_said q_talk m_thrown m_size m_at m_start m_token m_value m_faultAt m_allowed m_firstPair m_secondPair m_above m_below m_tongue) H locs := hH
    obtain ⟨o6, ho6, h⟩ := gm_bind_e h
    refine gm_callS (As := [.int (m_tongue (Int32.toNatClampNeg ((45 + o3)))), .int o5]) (rest := []) (n := 2) C0 hH (mX11_has l dC dI    ((m_tongue (Int32.toNatClampNeg ((45 + o3))))) o5   ho6) gX11_isHalf_X11_has rfl (by decide +kernel) ⟨rfl, rfl, Nat.le_of_ble_eq_true rfl, Nat.le_of_ble_eq_true rfl⟩ gm_T_ok (fun _ => trivial) [] rfl rfl rfl [] rfl rfl hl.1 rfl (Nat.le_of_ble_eq_true rfl) dX11_isHalf_27 ⟨Nat.zero_le _, Nat.zero_le _⟩ (fun H locs hH => ?_)
    have hH : gm_H (dC, dI) A s (wX11_isHalf cI q q_tongue q_refused q_fresh q_kept q_isKept q_text q_said q_talk m_thrown m_size m_at m_start m_token m_value m_faultAt m_allowed m_firstPair m_secondPair m_above m_below m_tongue) H locs := hH
    refine lv_if_eq (tgt := 37) hx hb dX11_isHalf_30 (by decide) (fun hc7 => ?_) (fun hc7 => ?_)
    · replace h := gm_pos hc7 h
      refine lv_iconst (v := 0) hx hb dX11_isHalf_37 (by decide) ?_
      obtain rfl := Option.some.inj h
      exact gm_zret C0 hH (show narrow .boolean (.int 0) = .int 0 by decide) dX11_isHalf_38
    · replace h := gm_neg hc7 h
      exact tX11_isHalf_b33 C0  h hH (lv_sub hl [] rfl)

/-! X11_isEcho -/
abbrev wX11_isEcho (cI : ClassId) (q q_tongue q_refused q_fresh q_kept q_isKept q_text q_said q_talk : Nat) (m_thrown : Int32) (m_size : Int32) (m_at : Int32) (m_start : Int32) (m_token : Int32) (m_value : Int64) (m_faultAt : Int32) (m_allowed : Int32) (m_firstPair : Int32) (m_secondPair : Int32) (m_above : Int64) (m_below : Int64) (m_tongue : Nat → Int32) : va_W := [(q, .inr (11, [.int m_thrown, .ref q_refused, .ref q_tongue, .ref q_fresh, .ref q_kept, .ref q_isKept, .ref q_text, .int m_size, .int m_at, .int m_start, .int m_token, .long m_value, .int m_faultAt, .ref q_said, .ref q_talk, .int m_allowed, .int m_firstPair, .int m_secondPair, .long m_above, .long m_below])), (q_tongue, .inl (cI, 73, .inl m_tongue))]
abbrev rX11_isEcho : Room := { frames := 2, cells := 0, slots := 0, locals := 43 }
def fX11_isEcho_b14 (N : Nat)   : Option (Int32) := some (1)
def fX11_isEcho (N : Nat) (m_tongue : Nat → Int32) (x1 : Int32) (x2 : Int32) : Option (Int32) := gm_bind (fX11_rhymes N m_tongue x1 x2) (fun o1 => (if o1 = 0 then (if x1 = x2 then (fX11_isEcho_b14 N  ) else some (0)) else (fX11_isEcho_b14 N  )))
set_option maxRecDepth 20000 in
theorem inX11_isEcho_X11 : ∀ w ∈ u_ws RX11 TX11 20, w ∈ wsX11_isEcho := fun w h => by
  obtain ⟨k, hk, rfl⟩ := List.mem_map.mp h
  have hk2 := List.mem_range.mp hk
  exact List.mem_of_getElem? (i := 11 + k) (by rcases (show k = 0 ∨ k = 1 ∨ k = 2 ∨ k = 3 ∨ k = 4 ∨ k = 5 ∨ k = 6 ∨ k = 7 ∨ k = 8 ∨ k = 9 ∨ k = 10 ∨ k = 11 ∨ k = 12 ∨ k = 13 ∨ k = 14 ∨ k = 15 ∨ k = 16 ∨ k = 17 ∨ k = 18 ∨ k = 19 by omega) with rfl | rfl | rfl | rfl | rfl | rfl | rfl | rfl | rfl | rfl | rfl | rfl | rfl | rfl | rfl | rfl | rfl | rfl | rfl | rfl <;> rfl)
set_option maxRecDepth 100000 in
set_option maxHeartbeats 4000000 in
theorem tX11_isEcho_b14 {p : Program} {l : Launch} {e : Env} {s : State} {m : MethodId} {args : Array Value} {below : List Frame} {meth : Method} {c : Code} {A : Nat → Prop} {dC : Nat → ClassId} {dI : Nat → Nat → Nat} {cI : ClassId} {q q_tongue q_refused q_fresh q_kept q_isKept q_text q_said q_talk : Nat} {m_thrown : Int32} {m_size : Int32} {m_at : Int32} {m_start : Int32} {m_token : Int32} {m_value : Int64} {m_faultAt : Int32} {m_allowed : Int32} {m_firstPair : Int32} {m_secondPair : Int32} {m_above : Int64} {m_below : Int64} {m_tongue : Nat → Int32} (C0 : gm_C p s m args meth c (dC, dI) [(cI, .int)] A gm_T RX11 cX11_isEcho 3 (some .boolean) wsX11_isEcho) {N : Nat} {out : Int32}    {H : Heap} {locs : List Loc} {ls : Array Slot} (h : fX11_isEcho_b14 N   = some out) (hH : gm_H (dC, dI) A s (wX11_isEcho cI q q_tongue q_refused q_fresh q_kept q_isKept q_text q_said q_talk m_thrown m_size m_at m_start m_token m_value m_faultAt m_allowed m_firstPair m_secondPair m_above m_below m_tongue) H locs) (hl : lv_has ls 3 []) : W p l e rX11_isEcho s m args below meth c H locs 0 0 (MQ below (gm_Q (dC, dI) [(cI, .int)] A (some (.int out)) (wX11_isEcho cI q q_tongue q_refused q_fresh q_kept q_isKept q_text q_said q_talk m_thrown m_size m_at m_start m_token m_value m_faultAt m_allowed m_firstPair m_secondPair m_above m_below m_tongue)) args s 0 0 A) (F0 m 14 ls []) := by
  obtain ⟨hx, hb, hml, hr, hown, hts, hA, hK, hX, hlocks⟩ := id C0
  unfold fX11_isEcho_b14 at h
  refine lv_iconst (v := 1) hx hb dX11_isEcho_14 (by decide) ?_
  refine lv_goto (tgt := 19) hx hb dX11_isEcho_15 (by decide) ?_
  obtain rfl := Option.some.inj h
  exact gm_zret C0 hH (show narrow .boolean (.int 1) = .int 1 by decide) dX11_isEcho_19
set_option maxRecDepth 100000 in
set_option maxHeartbeats 4000000 in
theorem mX11_isEcho (l : Launch) (dC : Nat → ClassId) (dI : Nat → Nat → Nat) (cI : ClassId) (q q_tongue q_refused q_fresh q_kept q_isKept q_text q_said q_talk : Nat) (m_thrown : Int32) (m_size : Int32) (m_at : Int32) (m_start : Int32) (m_token : Int32) (m_value : Int64) (m_faultAt : Int32) (m_allowed : Int32) (m_firstPair : Int32) (m_secondPair : Int32) (m_above : Int64) (m_below : Int64) (m_tongue : Nat → Int32) (x1 : Int32) (x2 : Int32)  {N : Nat} {out : Int32} (h : fX11_isEcho N m_tongue x1 x2 = some out) : gm_Met l yX11_isEcho wsX11_isEcho rX11_isEcho (dC, dI) [(cI, .int)] gm_T [.ref q, .int x1, .int x2] (wX11_isEcho cI q q_tongue q_refused q_fresh q_kept q_isKept q_text q_said q_talk m_thrown m_size m_at m_start m_token m_value m_faultAt m_allowed m_firstPair m_secondPair m_above m_below m_tongue) (some (.int out)) (wX11_isEcho cI q q_tongue q_refused q_fresh q_kept q_isKept q_text q_said q_talk m_thrown m_size m_at m_start m_token m_value m_faultAt m_allowed m_firstPair m_secondPair m_above m_below m_tongue) := by
  refine gm_ofW (cc := cX11_isEcho) (maxL := 3) (ret := (some .boolean)) (by decide +kernel) rfl (Nat.le_of_ble_eq_true rfl) ?_
  intro p e s m below meth c A C0 hH ls hl
  generalize ([.ref q, .int x1, .int x2] : List Value).toArray = args at C0 ⊢
  have hl : lv_has ls 3 [(0, .ref q), (1, .int x1), (2, .int x2)] := hl
  generalize s.heap = H at hH ⊢
  generalize ([] : List Loc) = locs at hH ⊢
  obtain ⟨hx, hb, hml, hr, hown, hts, hA, hK, hX, hlocks⟩ := id C0
  unfold fX11_isEcho at h
  refine lv_aload_n hx hb dX11_isEcho_0 rfl (lv_at hl 0 rfl) ?_
  refine lv_iload_n hx hb dX11_isEcho_1 rfl (lv_at hl 1 rfl) ?_
  refine lv_iload_n hx hb dX11_isEcho_2 rfl (lv_at hl 2 rfl) ?_
  obtain ⟨o1, ho1, h⟩ := gm_bind_e h
  refine gm_callV (As := [.int x1, .int x2]) (rest := []) (n := 2) (ci := 11) (q0 := 0) C0 hH (mX11_rhymes l dC dI cI q q_tongue q_refused q_fresh q_kept q_isKept q_text q_said q_talk m_thrown m_size m_at m_start m_token m_value m_faultAt m_allowed m_firstPair m_secondPair m_above m_below m_tongue x1 x2   ho1) gX11_isEcho_X11_rhymes rfl (by decide +kernel) ⟨rfl, rfl, Nat.le_of_ble_eq_true rfl, Nat.le_of_ble_eq_true rfl⟩ gm_T_ok (fun _ => trivial) [0, 1] rfl rfl rfl [0] rfl rfl rfl rfl hl.1 rfl (Nat.le_of_ble_eq_true rfl) dX11_isEcho_3 ⟨Nat.zero_le _, Nat.zero_le _⟩ (fun H locs hH => ?_)
  have hH : gm_H (dC, dI) A s (wX11_isEcho cI q q_tongue q_refused q_fresh q_kept q_isKept q_text q_said q_talk m_thrown m_size m_at m_start m_token m_value m_faultAt m_allowed m_firstPair m_secondPair m_above m_below m_tongue) H locs := hH
  refine lv_if_ne (tgt := 14) hx hb dX11_isEcho_6 (by decide) (fun hc2 => ?_) (fun hc2 => ?_)
  · replace h := gm_neg hc2 h
    exact tX11_isEcho_b14 C0  h hH (lv_sub hl [] rfl)
  · replace h := gm_pos hc2 h
    refine lv_iload_n hx hb dX11_isEcho_9 rfl (lv_at hl 1 rfl) ?_
    refine lv_iload_n hx hb dX11_isEcho_10 rfl (lv_at hl 2 rfl) ?_
    refine lv_icmp_ne (tgt := 18) hx hb dX11_isEcho_11 (by decide) (fun hc3 => ?_) (fun hc3 => ?_)
    · replace h := gm_neg hc3 h
      refine lv_iconst (v := 0) hx hb dX11_isEcho_18 (by decide) ?_
      obtain rfl := Option.some.inj h
      exact gm_zret C0 hH (show narrow .boolean (.int 0) = .int 0 by decide) dX11_isEcho_19
    · replace h := gm_pos hc3 h
      exact tX11_isEcho_b14 C0  h hH (lv_sub hl [] rfl)

/-! X11_chimes -/
abbrev wX11_chimes (cI : ClassId) (q q_tongue q_refused q_fresh q_kept q_isKept q_text q_said q_talk : Nat) (m_thrown : Int32) (m_size : Int32) (m_at : Int32) (m_start : Int32) (m_token : Int32) (m_value : Int64) (m_faultAt : Int32) (m_allowed : Int32) (m_firstPair : Int32) (m_secondPair : Int32) (m_above : Int64) (m_below : Int64) (m_tongue : Nat → Int32) : va_W := [(q, .inr (11, [.int m_thrown, .ref q_refused, .ref q_tongue, .ref q_fresh, .ref q_kept, .ref q_isKept, .ref q_text, .int m_size, .int m_at, .int m_start, .int m_token, .long m_value, .int m_faultAt, .ref q_said, .ref q_talk, .int m_allowed, .int m_firstPair, .int m_secondPair, .long m_above, .long m_below])), (q_tongue, .inl (cI, 73, .inl m_tongue))]
abbrev rX11_chimes : Room := { frames := 3, cells := 0, slots := 0, locals := 65 }
def fX11_chimes_b131 (N : Nat)   : Option (Int32) := some (1)
def fX11_chimes (N : Nat) (m_tongue : Nat → Int32) (x1 : Int32) (x2 : Int32) (x3 : Int32) (x4 : Int32) : Option (Int32) := (if x1 = 0 then gm_bind (fX11_rhymes N m_tongue x3 x4) (fun o2 => gm_bl o2 (some (o2))) else (if x1 = 1 then gm_bind (fX11_isHalf N m_tongue x3 x4) (fun o4 => gm_bl o4 (some (o4))) else (if x1 = 2 then gm_bind (fX11_isEcho N m_tongue x3 x4) (fun o6 => gm_bl o6 (some (o6))) else (if x1 = 3 then gm_bind (fX11_isEcho N m_tongue x3 x4) (fun o8 => (if o8 = 0 then some (0) else (if x3 < x4 then some (0) else some (1)))) else (if x1 = 4 then gm_bind (fX11_isHalf N m_tongue x3 x4) (fun o11 => (if o11 = 0 then some (0) else gm_bind (fX11_meaning N m_tongue x3) (fun o13 => gm_bind (fX11_meaning N m_tongue x4) (fun o14 => (if o13 = o14 then some (0) else some (1)))))) else gm_bind (fX11_isHalf N m_tongue x3 x4) (fun o16 => (if o16 = 0 then gm_bind (fX11_meaning N m_tongue x3) (fun o18 => (if o18 = x2 then (fX11_chimes_b131 N  ) else some (0))) else (fX11_chimes_b131 N  ))))))))
set_option maxRecDepth 20000 in
theorem inX11_chimes_X11 : ∀ w ∈ u_ws RX11 TX11 20, w ∈ wsX11_chimes := fun w h => by
  obtain ⟨k, hk, rfl⟩ := List.mem_map.mp h
  have hk2 := List.mem_range.mp hk
  exact List.mem_of_getElem? (i := 26 + k) (by rcases (show k = 0 ∨ k = 1 ∨ k = 2 ∨ k = 3 ∨ k = 4 ∨ k = 5 ∨ k = 6 ∨ k = 7 ∨ k = 8 ∨ k = 9 ∨ k = 10 ∨ k = 11 ∨ k = 12 ∨ k = 13 ∨ k = 14 ∨ k = 15 ∨ k = 16 ∨ k = 17 ∨ k = 18 ∨ k = 19 by omega) with rfl | rfl | rfl | rfl | rfl | rfl | rfl | rfl | rfl | rfl | rfl | rfl | rfl | rfl | rfl | rfl | rfl | rfl | rfl | rfl <;> rfl)
set_option maxRecDepth 100000 in
set_option maxHeartbeats 4000000 in
theorem tX11_chimes_b131 {p : Program} {l : Launch} {e : Env} {s : State} {m : MethodId} {args : Array Value} {below : List Frame} {meth : Method} {c : Code} {A : Nat → Prop} {dC : Nat → ClassId} {dI : Nat → Nat → Nat} {cI : ClassId} {q q_tongue q_refused q_fresh q_kept q_isKept q_text q_said q_talk : Nat} {m_thrown : Int32} {m_size : Int32} {m_at : Int32} {m_start : Int32} {m_token : Int32} {m_value : Int64} {m_faultAt : Int32} {m_allowed : Int32} {m_firstPair : Int32} {m_secondPair : Int32} {m_above : Int64} {m_below : Int64} {m_tongue : Nat → Int32} (C0 : gm_C p s m args meth c (dC, dI) [(cI, .int)] A gm_T RX11 cX11_chimes 5 (some .boolean) wsX11_chimes) {N : Nat} {out : Int32}    {H : Heap} {locs : List Loc} {ls : Array Slot} (h : fX11_chimes_b131 N   = some out) (hH : gm_H (dC, dI) A s (wX11_chimes cI q q_tongue q_refused q_fresh q_kept q_isKept q_text q_said q_talk m_thrown m_size m_at m_start m_token m_value m_faultAt m_allowed m_firstPair m_secondPair m_above m_below m_tongue) H locs) (hl : lv_has ls 5 []) : W p l e rX11_chimes s m args below meth c H locs 0 0 (MQ below (gm_Q (dC, dI) [(cI, .int)] A (some (.int out)) (wX11_chimes cI q q_tongue q_refused q_fresh q_kept q_isKept q_text q_said q_talk m_thrown m_size m_at m_start m_token m_value m_faultAt m_allowed m_firstPair m_secondPair m_above m_below m_tongue)) args s 0 0 A) (F0 m 131 ls []) := by
  obtain ⟨hx, hb, hml, hr, hown, hts, hA, hK, hX, hlocks⟩ := id C0
  unfold fX11_chimes_b131 at h
  refine lv_iconst (v := 1) hx hb dX11_chimes_131 (by decide) ?_
  refine lv_goto (tgt := 136) hx hb dX11_chimes_132 (by decide) ?_
  obtain rfl := Option.some.inj h
  exact gm_zret C0 hH (show narrow .boolean (.int 1) = .int 1 by decide) dX11_chimes_136
set_option maxRecDepth 100000 in
set_option maxHeartbeats 4000000 in
theorem mX11_chimes (l : Launch) (dC : Nat → ClassId) (dI : Nat → Nat → Nat) (cI : ClassId) (q q_tongue q_refused q_fresh q_kept q_isKept q_text q_said q_talk : Nat) (m_thrown : Int32) (m_size : Int32) (m_at : Int32) (m_start : Int32) (m_token : Int32) (m_value : Int64) (m_faultAt : Int32) (m_allowed : Int32) (m_firstPair : Int32) (m_secondPair : Int32) (m_above : Int64) (m_below : Int64) (m_tongue : Nat → Int32) (x1 : Int32) (x2 : Int32) (x3 : Int32) (x4 : Int32)  {N : Nat} {out : Int32} (h : fX11_chimes N m_tongue x1 x2 x3 x4 = some out) : gm_Met l yX11_chimes wsX11_chimes rX11_chimes (dC, dI) [(cI, .int)] gm_T [.ref q, .int x1, .int x2, .int x3, .int x4] (wX11_chimes cI q q_tongue q_refused q_fresh q_kept q_isKept q_text q_said q_talk m_thrown m_size m_at m_start m_token m_value m_faultAt m_allowed m_firstPair m_secondPair m_above m_below m_tongue) (some (.int out)) (wX11_chimes cI q q_tongue q_refused q_fresh q_kept q_isKept q_text q_said q_talk m_thrown m_size m_at m_start m_token m_value m_faultAt m_allowed m_firstPair m_secondPair m_above m_below m_tongue) := by
  refine gm_ofW (cc := cX11_chimes) (maxL := 5) (ret := (some .boolean)) (by decide +kernel) rfl (Nat.le_of_ble_eq_true rfl) ?_
  intro p e s m below meth c A C0 hH ls hl
  generalize ([.ref q, .int x1, .int x2, .int x3, .int x4] : List Value).toArray = args at C0 ⊢
  have hl : lv_has ls 5 [(0, .ref q), (1, .int x1), (2, .int x2), (3, .int x3), (4, .int x4)] := hl
  generalize s.heap = H at hH ⊢
  generalize ([] : List Loc) = locs at hH ⊢
  obtain ⟨hx, hb, hml, hr, hown, hts, hA, hK, hX, hlocks⟩ := id C0
  unfold fX11_chimes at h
  refine lv_iload_n hx hb dX11_chimes_0 rfl (lv_at hl 1 rfl) ?_
  by_cases hs1_0 : x1 = 0
  · replace h := gm_pos hs1_0 h
    refine lv_tableIn (tgt := 36) (off := 35) hx hb dX11_chimes_1 (by rw [hs1_0]; decide) (by rw [hs1_0]; decide) (by rw [hs1_0]; decide) (by decide) ?_
    refine lv_aload_n hx hb dX11_chimes_36 rfl (lv_at hl 0 rfl) ?_
    refine lv_iload_n hx hb dX11_chimes_37 rfl (lv_at hl 3 rfl) ?_
    refine lv_iload hx hb dX11_chimes_38 (lv_at hl 4 rfl) ?_
    obtain ⟨o2, ho2, h⟩ := gm_bind_e h
    refine gm_callV (As := [.int x3, .int x4]) (rest := []) (n := 2) (ci := 11) (q0 := 0) C0 hH (mX11_rhymes l dC dI cI q q_tongue q_refused q_fresh q_kept q_isKept q_text q_said q_talk m_thrown m_size m_at m_start m_token m_value m_faultAt m_allowed m_firstPair m_secondPair m_above m_below m_tongue x3 x4   ho2) gX11_chimes_X11_rhymes rfl (by decide +kernel) ⟨rfl, rfl, Nat.le_of_ble_eq_true rfl, Nat.le_of_ble_eq_true rfl⟩ gm_T_ok (fun _ => trivial) [0, 1] rfl rfl rfl [0] rfl rfl rfl rfl hl.1 rfl (Nat.le_of_ble_eq_true rfl) dX11_chimes_40 ⟨Nat.zero_le _, Nat.zero_le _⟩ (fun H locs hH => ?_)
    have hH : gm_H (dC, dI) A s (wX11_chimes cI q q_tongue q_refused q_fresh q_kept q_isKept q_text q_said q_talk m_thrown m_size m_at m_start m_token m_value m_faultAt m_allowed m_firstPair m_secondPair m_above m_below m_tongue) H locs := hH
    obtain ⟨hn3, h⟩ := gm_bl_e h
    obtain rfl := Option.some.inj h
    exact gm_zret C0 hH hn3 dX11_chimes_43
  · replace h := gm_neg hs1_0 h
    by_cases hs1_1 : x1 = 1
    · replace h := gm_pos hs1_1 h
      refine lv_tableIn (tgt := 44) (off := 43) hx hb dX11_chimes_1 (by rw [hs1_1]; decide) (by rw [hs1_1]; decide) (by rw [hs1_1]; decide) (by decide) ?_
      refine lv_aload_n hx hb dX11_chimes_44 rfl (lv_at hl 0 rfl) ?_
      refine lv_iload_n hx hb dX11_chimes_45 rfl (lv_at hl 3 rfl) ?_
      refine lv_iload hx hb dX11_chimes_46 (lv_at hl 4 rfl) ?_
      obtain ⟨o4, ho4, h⟩ := gm_bind_e h
      refine gm_callV (As := [.int x3, .int x4]) (rest := []) (n := 2) (ci := 11) (q0 := 0) C0 hH (mX11_isHalf l dC dI cI q q_tongue q_refused q_fresh q_kept q_isKept q_text q_said q_talk m_thrown m_size m_at m_start m_token m_value m_faultAt m_allowed m_firstPair m_secondPair m_above m_below m_tongue x3 x4   ho4) gX11_chimes_X11_isHalf rfl (by decide +kernel) ⟨rfl, rfl, Nat.le_of_ble_eq_true rfl, Nat.le_of_ble_eq_true rfl⟩ gm_T_ok (fun _ => trivial) [0, 1] rfl rfl rfl [0] rfl rfl rfl rfl hl.1 rfl (Nat.le_of_ble_eq_true rfl) dX11_chimes_48 ⟨Nat.zero_le _, Nat.zero_le _⟩ (fun H locs hH => ?_)
      have hH : gm_H (dC, dI) A s (wX11_chimes cI q q_tongue q_refused q_fresh q_kept q_isKept q_text q_said q_talk m_thrown m_size m_at m_start m_token m_value m_faultAt m_allowed m_firstPair m_secondPair m_above m_below m_tongue) H locs := hH
      obtain ⟨hn5, h⟩ := gm_bl_e h
      obtain rfl := Option.some.inj h
      exact gm_zret C0 hH hn5 dX11_chimes_51
    · replace h := gm_neg hs1_1 h
      by_cases hs1_2 : x1 = 2
      · replace h := gm_pos hs1_2 h
        refine lv_tableIn (tgt := 52) (off := 51) hx hb dX11_chimes_1 (by rw [hs1_2]; decide) (by rw [hs1_2]; decide) (by rw [hs1_2]; decide) (by decide) ?_
        refine lv_aload_n hx hb dX11_chimes_52 rfl (lv_at hl 0 rfl) ?_
        refine lv_iload_n hx hb dX11_chimes_53 rfl (lv_at hl 3 rfl) ?_
        refine lv_iload hx hb dX11_chimes_54 (lv_at hl 4 rfl) ?_
        obtain ⟨o6, ho6, h⟩ := gm_bind_e h
        refine gm_callV (As := [.int x3, .int x4]) (rest := []) (n := 2) (ci := 11) (q0 := 0) C0 hH (mX11_isEcho l dC dI cI q q_tongue q_refused q_fresh q_kept q_isKept q_text q_said q_talk m_thrown m_size m_at m_start m_token m_value m_faultAt m_allowed m_firstPair m_secondPair m_above m_below m_tongue x3 x4   ho6) gX11_chimes_X11_isEcho rfl (by decide +kernel) ⟨rfl, rfl, Nat.le_of_ble_eq_true rfl, Nat.le_of_ble_eq_true rfl⟩ gm_T_ok (fun _ => trivial) [0, 1] rfl rfl rfl [0] rfl rfl rfl rfl hl.1 rfl (Nat.le_of_ble_eq_true rfl) dX11_chimes_56 ⟨Nat.zero_le _, Nat.zero_le _⟩ (fun H locs hH => ?_)
        have hH : gm_H (dC, dI) A s (wX11_chimes cI q q_tongue q_refused q_fresh q_kept q_isKept q_text q_said q_talk m_thrown m_size m_at m_start m_token m_value m_faultAt m_allowed m_firstPair m_secondPair m_above m_below m_tongue) H locs := hH
        obtain ⟨hn7, h⟩ := gm_bl_e h
        obtain rfl := Option.some.inj h
        exact gm_zret C0 hH hn7 dX11_chimes_59
      · replace h := gm_neg hs1_2 h
        by_cases hs1_3 : x1 = 3
        · replace h := gm_pos hs1_3 h
          refine lv_tableIn (tgt := 60) (off := 59) hx hb dX11_chimes_1 (by rw [hs1_3]; decide) (by rw [hs1_3]; decide) (by rw [hs1_3]; decide) (by decide) ?_
          refine lv_aload_n hx hb dX11_chimes_60 rfl (lv_at hl 0 rfl) ?_
          refine lv_iload_n hx hb dX11_chimes_61 rfl (lv_at hl 3 rfl) ?_
          refine lv_iload hx hb dX11_chimes_62 (lv_at hl 4 rfl) ?_
          obtain ⟨o8, ho8, h⟩ := gm_bind_e h
          refine gm_callV (As := [.int x3, .int x4]) (rest := []) (n := 2) (ci := 11) (q0 := 0) C0 hH (mX11_isEcho l dC dI cI q q_tongue q_refused q_fresh q_kept q_isKept q_text q_said q_talk m_thrown m_size m_at m_start m_token m_value m_faultAt m_allowed m_firstPair m_secondPair m_above m_below m_tongue x3 x4   ho8) gX11_chimes_X11_isEcho rfl (by decide +kernel) ⟨rfl, rfl, Nat.le_of_ble_eq_true rfl, Nat.le_of_ble_eq_true rfl⟩ gm_T_ok (fun _ => trivial) [0, 1] rfl rfl rfl [0] rfl rfl rfl rfl hl.1 rfl (Nat.le_of_ble_eq_true rfl) dX11_chimes_64 ⟨Nat.zero_le _, Nat.zero_le _⟩ (fun H locs hH => ?_)
          have hH : gm_H (dC, dI) A s (wX11_chimes cI q q_tongue q_refused q_fresh q_kept q_isKept q_text q_said q_talk m_thrown m_size m_at m_start m_token m_value m_faultAt m_allowed m_firstPair m_secondPair m_above m_below m_tongue) H locs := hH
          refine lv_if_eq (tgt := 80) hx hb dX11_chimes_67 (by decide) (fun hc9 => ?_) (fun hc9 => ?_)
          · replace h := gm_pos hc9 h
            refine lv_iconst (v := 0) hx hb dX11_chimes_80 (by decide) ?_
            obtain rfl := Option.some.inj h
            exact gm_zret C0 hH (show narrow .boolean (.int 0) = .int 0 by decide) dX11_chimes_81
          · replace h := gm_neg hc9 h
            refine lv_iload_n hx hb dX11_chimes_70 rfl (lv_at hl 3 rfl) ?_
            refine lv_iload hx hb dX11_chimes_71 (lv_at hl 4 rfl) ?_
            refine lv_icmp_lt (tgt := 80) hx hb dX11_chimes_73 (by decide) (fun hc10 => ?_) (fun hc10 => ?_)
            · replace h := gm_pos hc10 h
              refine lv_iconst (v := 0) hx hb dX11_chimes_80 (by decide) ?_
              obtain rfl := Option.some.inj h
              exact gm_zret C0 hH (show narrow .boolean (.int 0) = .int 0 by decide) dX11_chimes_81
            · replace h := gm_neg hc10 h
              refine lv_iconst (v := 1) hx hb dX11_chimes_76 (by decide) ?_
              refine lv_goto (tgt := 81) hx hb dX11_chimes_77 (by decide) ?_
              obtain rfl := Option.some.inj h
              exact gm_zret C0 hH (show narrow .boolean (.int 1) = .int 1 by decide) dX11_chimes_81
        · replace h := gm_neg hs1_3 h
          by_cases hs1_4 : x1 = 4
          · replace h := gm_pos hs1_4 h
            refine lv_tableIn (tgt := 82) (off := 81) hx hb dX11_chimes_1 (by rw [hs1_4]; decide) (by rw [hs1_4]; decide) (by rw [hs1_4]; decide) (by decide) ?_
            refine lv_aload_n hx hb dX11_chimes_82 rfl (lv_at hl 0 rfl) ?_
            refine lv_iload_n hx hb dX11_chimes_83 rfl (lv_at hl 3 rfl) ?_
            refine lv_iload hx hb dX11_chimes_84 (lv_at hl 4 rfl) ?_
            obtain ⟨o11, ho11, h⟩ := gm_bind_e h
            refine gm_callV (As := [.int x3, .int x4]) (rest := []) (n := 2) (ci := 11) (q0 := 0) C0 hH (mX11_isHalf l dC dI cI q q_tongue q_refused q_fresh q_kept q_isKept q_text q_said q_talk m_thrown m_size m_at m_start m_token m_value m_faultAt m_allowed m_firstPair m_secondPair m_above m_below m_tongue x3 x4   ho11) gX11_chimes_X11_isHalf rfl (by decide +kernel) ⟨rfl, rfl, Nat.le_of_ble_eq_true rfl, Nat.le_of_ble_eq_true rfl⟩ gm_T_ok (fun _ => trivial) [0, 1] rfl rfl rfl [0] rfl rfl rfl rfl hl.1 rfl (Nat.le_of_ble_eq_true rfl) dX11_chimes_86 ⟨Nat.zero_le _, Nat.zero_le _⟩ (fun H locs hH => ?_)
            have hH : gm_H (dC, dI) A s (wX11_chimes cI q q_tongue q_refused q_fresh q_kept q_isKept q_text q_said q_talk m_thrown m_size m_at m_start m_token m_value m_faultAt m_allowed m_firstPair m_secondPair m_above m_below m_tongue) H locs := hH
            refine lv_if_eq (tgt := 110) hx hb dX11_chimes_89 (by decide) (fun hc12 => ?_) (fun hc12 => ?_)
            · replace h := gm_pos hc12 h
              refine lv_iconst (v := 0) hx hb dX11_chimes_110 (by decide) ?_
              obtain rfl := Option.some.inj h
              exact gm_zret C0 hH (show narrow .boolean (.int 0) = .int 0 by decide) dX11_chimes_111
            · replace h := gm_neg hc12 h
              refine lv_aload_n hx hb dX11_chimes_92 rfl (lv_at hl 0 rfl) ?_
              refine lv_iload_n hx hb dX11_chimes_93 rfl (lv_at hl 3 rfl) ?_
              obtain ⟨o13, ho13, h⟩ := gm_bind_e h
              refine gm_callV (As := [.int x3]) (rest := []) (n := 1) (ci := 11) (q0 := 0) C0 hH (mX11_meaning l dC dI cI q q_tongue q_refused q_fresh q_kept q_isKept q_text q_said q_talk m_thrown m_size m_at m_start m_token m_value m_faultAt m_allowed m_firstPair m_secondPair m_above m_below m_tongue x3   ho13) gX11_chimes_X11_meaning rfl (by decide +kernel) ⟨rfl, rfl, Nat.le_of_ble_eq_true rfl, Nat.le_of_ble_eq_true rfl⟩ gm_T_ok (fun _ => trivial) [0, 1] rfl rfl rfl [0] rfl rfl rfl rfl hl.1 rfl (Nat.le_of_ble_eq_true rfl) dX11_chimes_94 ⟨Nat.zero_le _, Nat.zero_le _⟩ (fun H locs hH => ?_)
              have hH : gm_H (dC, dI) A s (wX11_chimes cI q q_tongue q_refused q_fresh q_kept q_isKept q_text q_said q_talk m_thrown m_size m_at m_start m_token m_value m_faultAt m_allowed m_firstPair m_secondPair m_above m_below m_tongue) H locs := hH
              refine lv_aload_n hx hb dX11_chimes_97 rfl (lv_at hl 0 rfl) ?_
              refine lv_iload hx hb dX11_chimes_98 (lv_at hl 4 rfl) ?_
              obtain ⟨o14, ho14, h⟩ := gm_bind_e h
              refine gm_callV (As := [.int x4]) (rest := [.int o13]) (n := 1) (ci := 11) (q0 := 0) C0 hH (mX11_meaning l dC dI cI q q_tongue q_refused q_fresh q_kept q_isKept q_text q_said q_talk m_thrown m_size m_at m_start m_token m_value m_faultAt m_allowed m_firstPair m_secondPair m_above m_below m_tongue x4   ho14) gX11_chimes_X11_meaning rfl (by decide +kernel) ⟨rfl, rfl, Nat.le_of_ble_eq_true rfl, Nat.le_of_ble_eq_true rfl⟩ gm_T_ok (fun _ => trivial) [0, 1] rfl rfl rfl [0] rfl rfl rfl rfl hl.1 rfl (Nat.le_of_ble_eq_true rfl) dX11_chimes_100 ⟨Nat.zero_le _, Nat.zero_le _⟩ (fun H locs hH => ?_)
              have hH : gm_H (dC, dI) A s (wX11_chimes cI q q_tongue q_refused q_fresh q_kept q_isKept q_text q_said q_talk m_thrown m_size m_at m_start m_token m_value m_faultAt m_allowed m_firstPair m_secondPair m_above m_below m_tongue) H locs := hH
              refine lv_icmp_eq (tgt := 110) hx hb dX11_chimes_103 (by decide) (fun hc15 => ?_) (fun hc15 => ?_)
              · replace h := gm_pos hc15 h
                refine lv_iconst (v := 0) hx hb dX11_chimes_110 (by decide) ?_
                obtain rfl := Option.some.inj h
                exact gm_zret C0 hH (show narrow .boolean (.int 0) = .int 0 by decide) dX11_chimes_111
              · replace h := gm_neg hc15 h
                refine lv_iconst (v := 1) hx hb dX11_chimes_106 (by decide) ?_
                refine lv_goto (tgt := 111) hx hb dX11_chimes_107 (by decide) ?_
                obtain rfl := Option.some.inj h
                exact gm_zret C0 hH (show narrow .boolean (.int 1) = .int 1 by decide) dX11_chimes_111
          · replace h := gm_neg hs1_4 h
            refine lv_tableOut (tgt := 112) hx hb dX11_chimes_1 (by have hj0 := lv_neT hs1_0 (a := 0) rfl; have hj1 := lv_neT hs1_1 (a := 1) rfl; have hj2 := lv_neT hs1_2 (a := 2) rfl; have hj3 := lv_neT hs1_3 (a := 3) rfl; have hj4 := lv_neT hs1_4 (a := 4) rfl; omega) (by decide) ?_
            refine lv_aload_n hx hb dX11_chimes_112 rfl (lv_at hl 0 rfl) ?_
            refine lv_iload_n hx hb dX11_chimes_113 rfl (lv_at hl 3 rfl) ?_
            refine lv_iload hx hb dX11_chimes_114 (lv_at hl 4 rfl) ?_
            obtain ⟨o16, ho16, h⟩ := gm_bind_e h
            refine gm_callV (As := [.int x3, .int x4]) (rest := []) (n := 2) (ci := 11) (q0 := 0) C0 hH (mX11_isHalf l dC dI cI q q_tongue q_refused q_fresh q_kept q_isKept q_text q_said q_talk m_thrown m_size m_at m_start m_token m_value m_faultAt m_allowed m_firstPair m_secondPair m_above m_below m_tongue x3 x4   ho16) gX11_chimes_X11_isHalf rfl (by decide +kernel) ⟨rfl, rfl, Nat.le_of_ble_eq_true rfl, Nat.le_of_ble_eq_true rfl⟩ gm_T_ok (fun _ => trivial) [0, 1] rfl rfl rfl [0] rfl rfl rfl rfl hl.1 rfl (Nat.le_of_ble_eq_true rfl) dX11_chimes_116 ⟨Nat.zero_le _, Nat.zero_le _⟩ (fun H locs hH => ?_)
            have hH : gm_H (dC, dI) A s (wX11_chimes cI q q_tongue q_refused q_fresh q_kept q_isKept q_text q_said q_talk m_thrown m_size m_at m_start m_token m_value m_faultAt m_allowed m_firstPair m_secondPair m_above m_below m_tongue) H locs := hH
            refine lv_if_ne (tgt := 131) hx hb dX11_chimes_119 (by decide) (fun hc17 => ?_) (fun hc17 => ?_)
            · replace h := gm_neg hc17 h
              exact tX11_chimes_b131 C0  h hH (lv_sub hl [] rfl)
            · replace h := gm_pos hc17 h
              refine lv_aload_n hx hb dX11_chimes_122 rfl (lv_at hl 0 rfl) ?_
              refine lv_iload_n hx hb dX11_chimes_123 rfl (lv_at hl 3 rfl) ?_
              obtain ⟨o18, ho18, h⟩ := gm_bind_e h
              refine gm_callV (As := [.int x3]) (rest := []) (n := 1) (ci := 11) (q0 := 0) C0 hH (mX11_meaning l dC dI cI q q_tongue q_refused q_fresh q_kept q_isKept q_text q_said q_talk m_thrown m_size m_at m_start m_token m_value m_faultAt m_allowed m_firstPair m_secondPair m_above m_below m_tongue x3   ho18) gX11_chimes_X11_meaning rfl (by decide +kernel) ⟨rfl, rfl, Nat.le_of_ble_eq_true rfl, Nat.le_of_ble_eq_true rfl⟩ gm_T_ok (fun _ => trivial) [0, 1] rfl rfl rfl [0] rfl rfl rfl rfl hl.1 rfl (Nat.le_of_ble_eq_true rfl) dX11_chimes_124 ⟨Nat.zero_le _, Nat.zero_le _⟩ (fun H locs hH => ?_)
              have hH : gm_H (dC, dI) A s (wX11_chimes cI q q_tongue q_refused q_fresh q_kept q_isKept q_text q_said q_talk m_thrown m_size m_at m_start m_token m_value m_faultAt m_allowed m_firstPair m_secondPair m_above m_below m_tongue) H locs := hH
              refine lv_iload_n hx hb dX11_chimes_127 rfl (lv_at hl 2 rfl) ?_
              refine lv_icmp_ne (tgt := 135) hx hb dX11_chimes_128 (by decide) (fun hc19 => ?_) (fun hc19 => ?_)
              · replace h := gm_neg hc19 h
                refine lv_iconst (v := 0) hx hb dX11_chimes_135 (by decide) ?_
                obtain rfl := Option.some.inj h
                exact gm_zret C0 hH (show narrow .boolean (.int 0) = .int 0 by decide) dX11_chimes_136
              · replace h := gm_pos hc19 h
                exact tX11_chimes_b131 C0  h hH (lv_sub hl [] rfl)

/-! X11_chimesWith -/
abbrev wX11_chimesWith (cI : ClassId) (q q_tongue q_refused q_fresh q_kept q_isKept q_text q_said q_talk : Nat) (m_thrown : Int32) (m_size : Int32) (m_at : Int32) (m_start : Int32) (m_token : Int32) (m_value : Int64) (m_faultAt : Int32) (m_allowed : Int32) (m_firstPair : Int32) (m_secondPair : Int32) (m_above : Int64) (m_below : Int64) (m_tongue : Nat → Int32) : va_W := [(q, .inr (11, [.int m_thrown, .ref q_refused, .ref q_tongue, .ref q_fresh, .ref q_kept, .ref q_isKept, .ref q_text, .int m_size, .int m_at, .int m_start, .int m_token, .long m_value, .int m_faultAt, .ref q_said, .ref q_talk, .int m_allowed, .int m_firstPair, .int m_secondPair, .long m_above, .long m_below])), (q_tongue, .inl (cI, 73, .inl m_tongue))]
abbrev rX11_chimesWith : Room := { frames := 4, cells := 0, slots := 0, locals := 89 }
def fX11_chimesWith_b45 (N : Nat) (r5 : Int32 → Int32 → Option (Int32)) (m_tongue : Nat → Int32) (x1 : Int32) (x2 : Int32) (x4 : Int32) (k0 : Int32) (k1 : Int32) : Option (Int32) := gm_let ((k0 ||| k1) : Int32) (fun (v7 : Int32) => (r5 v7 ((x4 + 1))))
def fX11_chimesWith_b5_body (N : Nat)  (m_tongue : Nat → Int32) (x1 : Int32) (x2 : Int32) (r5 : Int32 → Int32 → Option (Int32)) (x3 : Int32) (x4 : Int32) : Option (Int32) := gm_chk 0 73 ((if (m_tongue (Int32.toNatClampNeg 0)) ≤ x4 then some (x3) else gm_bind (fX11_kind N m_tongue x1) (fun o3 => gm_bind (fX11_want N m_tongue x1) (fun o4 => gm_bind (fX11_chimes N m_tongue o3 o4 x4 x2) (fun o5 => (if o5 = 0 then (fX11_chimesWith_b45 N r5 m_tongue x1 x2 x4 x3 0) else (fX11_chimesWith_b45 N r5 m_tongue x1 x2 x4 x3 (((1 : Int32) <<< (x4 &&& 31))))))))))
def fX11_chimesWith_b5 (N : Nat)  (m_tongue : Nat → Int32) (x1 : Int32) (x2 : Int32) (x3 : Int32) (x4 : Int32) : Option (Int32) := gm_fix (fX11_chimesWith_b5_body N  m_tongue x1 x2) (fun _ _ => none) N x3 x4
def fX11_chimesWith (N : Nat) (m_tongue : Nat → Int32) (x1 : Int32) (x2 : Int32) : Option (Int32) := (fX11_chimesWith_b5 N  m_tongue x1 x2 0 0)
set_option maxRecDepth 20000 in
theorem inX11_chimesWith_X11 : ∀ w ∈ u_ws RX11 TX11 20, w ∈ wsX11_chimesWith := fun w h => by
  obtain ⟨k, hk, rfl⟩ := List.mem_map.mp h
  have hk2 := List.mem_range.mp hk
  exact List.mem_of_getElem? (i := 38 + k) (by rcases (show k = 0 ∨ k = 1 ∨ k = 2 ∨ k = 3 ∨ k = 4 ∨ k = 5 ∨ k = 6 ∨ k = 7 ∨ k = 8 ∨ k = 9 ∨ k = 10 ∨ k = 11 ∨ k = 12 ∨ k = 13 ∨ k = 14 ∨ k = 15 ∨ k = 16 ∨ k = 17 ∨ k = 18 ∨ k = 19 by omega) with rfl | rfl | rfl | rfl | rfl | rfl | rfl | rfl | rfl | rfl | rfl | rfl | rfl | rfl | rfl | rfl | rfl | rfl | rfl | rfl <;> rfl)
set_option maxRecDepth 100000 in
set_option maxHeartbeats 4000000 in
theorem tX11_chimesWith_b45 {p : Program} {l : Launch} {e : Env} {s : State} {m : MethodId} {args : Array Value} {below : List Frame} {meth : Method} {c : Code} {A : Nat → Prop} {dC : Nat → ClassId} {dI : Nat → Nat → Nat} {cI : ClassId} {q q_tongue q_refused q_fresh q_kept q_isKept q_text q_said q_talk : Nat} {m_thrown : Int32} {m_size : Int32} {m_at : Int32} {m_start : Int32} {m_token : Int32} {m_value : Int64} {m_faultAt : Int32} {m_allowed : Int32} {m_firstPair : Int32} {m_secondPair : Int32} {m_above : Int64} {m_below : Int64} {m_tongue : Nat → Int32} {x1 : Int32} {x2 : Int32} {x4 : Int32} {k0 : Int32} {k1 : Int32} (C0 : gm_C p s m args meth c (dC, dI) [(cI, .int)] A gm_T RX11 cX11_chimesWith 5 (some .int) wsX11_chimesWith) {N : Nat} {out : Int32} {r5 : Int32 → Int32 → Option (Int32)} (hr5 : ∀ (x3 : Int32) (x4 : Int32) (H : Heap) (locs : List Loc) (ls : Array Slot), r5 x3 x4 = some out → gm_H (dC, dI) A s (wX11_chimesWith cI q q_tongue q_refused q_fresh q_kept q_isKept q_text q_said q_talk m_thrown m_size m_at m_start m_token m_value m_faultAt m_allowed m_firstPair m_secondPair m_above m_below m_tongue) H locs → lv_has ls 5 [(0, .ref q), (1, .int x1), (2, .int x2), (3, .int x3), (4, .int x4)] → W p l e rX11_chimesWith s m args below meth c H locs 0 0 (MQ below (gm_Q (dC, dI) [(cI, .int)] A (some (.int out)) (wX11_chimesWith cI q q_tongue q_refused q_fresh q_kept q_isKept q_text q_said q_talk m_thrown m_size m_at m_start m_token m_value m_faultAt m_allowed m_firstPair m_secondPair m_above m_below m_tongue)) args s 0 0 A) (F0 m 5 ls []))   {H : Heap} {locs : List Loc} {ls : Array Slot} (h : fX11_chimesWith_b45 N r5 m_tongue x1 x2 x4 k0 k1 = some out) (hH : gm_H (dC, dI) A s (wX11_chimesWith cI q q_tongue q_refused q_fresh q_kept q_isKept q_text q_said q_talk m_thrown m_size m_at m_start m_token m_value m_faultAt m_allowed m_firstPair m_secondPair m_above m_below m_tongue) H locs) (hl : lv_has ls 5 [(0, .ref q), (1, .int x1), (2, .int x2), (4, .int x4)]) : W p l e rX11_chimesWith s m args below meth c H locs 0 0 (MQ below (gm_Q (dC, dI) [(cI, .int)] A (some (.int out)) (wX11_chimesWith cI q q_tongue q_refused q_fresh q_kept q_isKept q_text q_said q_talk m_thrown m_size m_at m_start m_token m_value m_faultAt m_allowed m_firstPair m_secondPair m_above m_below m_tongue)) args s 0 0 A) (F0 m 45 ls [.int k1, .int k0]) := by
  obtain ⟨hx, hb, hml, hr, hown, hts, hA, hK, hX, hlocks⟩ := id C0
  unfold fX11_chimesWith_b45 at h
  refine lv_ior hx hb dX11_chimesWith_45 ?_
  refine lv_topi (fun v7 ev7 => ?_)
  replace h := gm_let_e ev7 h
  refine lv_istore_n (lv' := [(3, .int v7), (0, .ref q), (1, .int x1), (2, .int x2), (4, .int x4)]) hx hb dX11_chimesWith_46 rfl hl (by decide) rfl (fun ls hl => ?_)
  refine lv_iinc (v := (x4 + 1)) (lv' := [(4, .int (x4 + 1)), (3, .int v7), (0, .ref q), (1, .int x1), (2, .int x2)]) hx hb dX11_chimesWith_47 hl (k := 4) rfl rfl (by decide) rfl (fun ls hl => ?_)
  refine lv_goto (tgt := 5) hx hb dX11_chimesWith_50 (by decide) ?_
  exact hr5 _ _ _ _ _ h hH (lv_sub hl [2, 3, 4, 1, 0] rfl)
set_option maxRecDepth 100000 in
set_option maxHeartbeats 4000000 in
theorem tX11_chimesWith_b5 {p : Program} {l : Launch} {e : Env} {s : State} {m : MethodId} {args : Array Value} {below : List Frame} {meth : Method} {c : Code} {A : Nat → Prop} {dC : Nat → ClassId} {dI : Nat → Nat → Nat} {cI : ClassId} {q q_tongue q_refused q_fresh q_kept q_isKept q_text q_said q_talk : Nat} {m_thrown : Int32} {m_size : Int32} {m_at : Int32} {m_start : Int32} {m_token : Int32} {m_value : Int64} {m_faultAt : Int32} {m_allowed : Int32} {m_firstPair : Int32} {m_secondPair : Int32} {m_above : Int64} {m_below : Int64} {m_tongue : Nat → Int32} {x1 : Int32} {x2 : Int32} (C0 : gm_C p s m args meth c (dC, dI) [(cI, .int)] A gm_T RX11 cX11_chimesWith 5 (some .int) wsX11_chimesWith) {N : Nat} {out : Int32}   : ∀ (n : Nat), ∀ (x3 : Int32) (x4 : Int32) (H : Heap) (locs : List Loc) (ls : Array Slot), (gm_fix (fX11_chimesWith_b5_body N  m_tongue x1 x2) (fun _ _ => none) n) x3 x4 = some out → gm_H (dC, dI) A s (wX11_chimesWith cI q q_tongue q_refused q_fresh q_kept q_isKept q_text q_said q_talk m_thrown m_size m_at m_start m_token m_value m_faultAt m_allowed m_firstPair m_secondPair m_above m_below m_tongue) H locs → lv_has ls 5 [(0, .ref q), (1, .int x1), (2, .int x2), (3, .int x3), (4, .int x4)] → W p l e rX11_chimesWith s m args below meth c H locs 0 0 (MQ below (gm_Q (dC, dI) [(cI, .int)] A (some (.int out)) (wX11_chimesWith cI q q_tongue q_refused q_fresh q_kept q_isKept q_text q_said q_talk m_thrown m_size m_at m_start m_token m_value m_faultAt m_allowed m_firstPair m_secondPair m_above m_below m_tongue)) args s 0 0 A) (F0 m 5 ls []) := by
  obtain ⟨hx, hb, hml, hr, hown, hts, hA, hK, hX, hlocks⟩ := id C0
  intro n
  induction n with
  | zero =>
    intro x3 x4 H locs ls h hH hl
    cases h
  | succ n hr5 =>
    intro x3 x4 H locs ls h hH hl
    rw [gm_fix_s] at h
    unfold fX11_chimesWith_b5_body at h
    refine lv_iload hx hb dX11_chimesWith_5 (lv_at hl 4 rfl) ?_
    refine lv_aload_n hx hb dX11_chimesWith_7 rfl (lv_at hl 0 rfl) ?_
    refine gm_get (ci := 11) C0 hH inX11_chimesWith_X11 0 2 1 rfl rfl (by decide) rfl rfl dX11_chimesWith_8 ?_
    refine lv_iconst (v := 0) hx hb dX11_chimesWith_11 (by decide) ?_
    obtain ⟨hi1, h⟩ := gm_chk_e h
    refine gm_iald C0 hH hi1 1 0 rfl rfl dX11_chimesWith_12 ?_
    refine lv_icmp_ge (tgt := 53) hx hb dX11_chimesWith_13 (by decide) (fun hc2 => ?_) (fun hc2 => ?_)
    · replace h := gm_pos hc2 h
      refine lv_iload_n hx hb dX11_chimesWith_53 rfl (lv_at hl 3 rfl) ?_
      obtain rfl := Option.some.inj h
      exact gm_iret C0 hH dX11_chimesWith_54
    · replace h := gm_neg hc2 h
      refine lv_iload_n hx hb dX11_chimesWith_16 rfl (lv_at hl 3 rfl) ?_
      refine lv_aload_n hx hb dX11_chimesWith_17 rfl (lv_at hl 0 rfl) ?_
      refine lv_aload_n hx hb dX11_chimesWith_18 rfl (lv_at hl 0 rfl) ?_
      refine lv_iload_n hx hb dX11_chimesWith_19 rfl (lv_at hl 1 rfl) ?_
      obtain ⟨o3, ho3, h⟩ := gm_bind_e h
      refine gm_callV (As := [.int x1]) (rest := [.ref q, .int x3]) (n := 1) (ci := 11) (q0 := 0) C0 hH (mX11_kind l dC dI cI q q_tongue q_refused q_fresh q_kept q_isKept q_text q_said q_talk m_thrown m_size m_at m_start m_token m_value m_faultAt m_allowed m_firstPair m_secondPair m_above m_below m_tongue x1   ho3) gX11_chimesWith_X11_kind rfl (by decide +kernel) ⟨rfl, rfl, Nat.le_of_ble_eq_true rfl, Nat.le_of_ble_eq_true rfl⟩ gm_T_ok (fun _ => trivial) [0, 1] rfl rfl rfl [0] rfl rfl rfl rfl hl.1 rfl (Nat.le_of_ble_eq_true rfl) dX11_chimesWith_20 ⟨Nat.zero_le _, Nat.zero_le _⟩ (fun H locs hH => ?_)
      have hH : gm_H (dC, dI) A s (wX11_chimesWith cI q q_tongue q_refused q_fresh q_kept q_isKept q_text q_said q_talk m_thrown m_size m_at m_start m_token m_value m_faultAt m_allowed m_firstPair m_secondPair m_above m_below m_tongue) H locs := hH
      refine lv_aload_n hx hb dX11_chimesWith_23 rfl (lv_at hl 0 rfl) ?_
      refine lv_iload_n hx hb dX11_chimesWith_24 rfl (lv_at hl 1 rfl) ?_
      obtain ⟨o4, ho4, h⟩ := gm_bind_e h
      refine gm_callV (As := [.int x1]) (rest := [.int o3, .ref q, .int x3]) (n := 1) (ci := 11) (q0 := 0) C0 hH (mX11_want l dC dI cI q q_tongue q_refused q_fresh q_kept q_isKept q_text q_said q_talk m_thrown m_size m_at m_start m_token m_value m_faultAt m_allowed m_firstPair m_secondPair m_above m_below m_tongue x1   ho4) gX11_chimesWith_X11_want rfl (by decide +kernel) ⟨rfl, rfl, Nat.le_of_ble_eq_true rfl, Nat.le_of_ble_eq_true rfl⟩ gm_T_ok (fun _ => trivial) [0, 1] rfl rfl rfl [0] rfl rfl rfl rfl hl.1 rfl (Nat.le_of_ble_eq_true rfl) dX11_chimesWith_25 ⟨Nat.zero_le _, Nat.zero_le _⟩ (fun H locs hH => ?_)
      have hH : gm_H (dC, dI) A s (wX11_chimesWith cI q q_tongue q_refused q_fresh q_kept q_isKept q_text q_said q_talk m_thrown m_size m_at m_start m_token m_value m_faultAt m_allowed m_firstPair m_secondPair m_above m_below m_tongue) H locs := hH
      refine lv_iload hx hb dX11_chimesWith_28 (lv_at hl 4 rfl) ?_
      refine lv_iload_n hx hb dX11_chimesWith_30 rfl (lv_at hl 2 rfl) ?_
      obtain ⟨o5, ho5, h⟩ := gm_bind_e h
      refine gm_callV (As := [.int o3, .int o4, .int x4, .int x2]) (rest := [.int x3]) (n := 4) (ci := 11) (q0 := 0) C0 hH (mX11_chimes l dC dI cI q q_tongue q_refused q_fresh q_kept q_isKept q_text q_said q_talk m_thrown m_size m_at m_start m_token m_value m_faultAt m_allowed m_firstPair m_secondPair m_above m_below m_tongue o3 o4 x4 x2   ho5) gX11_chimesWith_X11_chimes rfl (by decide +kernel) ⟨rfl, rfl, Nat.le_of_ble_eq_true rfl, Nat.le_of_ble_eq_true rfl⟩ gm_T_ok (fun _ => trivial) [0, 1] rfl rfl rfl [0] rfl rfl rfl rfl hl.1 rfl (Nat.le_of_ble_eq_true rfl) dX11_chimesWith_31 ⟨Nat.zero_le _, Nat.zero_le _⟩ (fun H locs hH => ?_)
      have hH : gm_H (dC, dI) A s (wX11_chimesWith cI q q_tongue q_refused q_fresh q_kept q_isKept q_text q_said q_talk m_thrown m_size m_at m_start m_token m_value m_faultAt m_allowed m_firstPair m_secondPair m_above m_below m_tongue) H locs := hH
      refine lv_if_eq (tgt := 44) hx hb dX11_chimesWith_34 (by decide) (fun hc6 => ?_) (fun hc6 => ?_)
      · replace h := gm_pos hc6 h
        refine lv_iconst (v := 0) hx hb dX11_chimesWith_44 (by decide) ?_
        exact tX11_chimesWith_b45 C0 hr5 h hH (lv_sub hl [0, 1, 2, 4] rfl)
      · replace h := gm_neg hc6 h
        refine lv_iconst (v := 1) hx hb dX11_chimesWith_37 (by decide) ?_
        refine lv_iload hx hb dX11_chimesWith_38 (lv_at hl 4 rfl) ?_
        refine lv_ishl hx hb dX11_chimesWith_40 ?_
        refine lv_goto (tgt := 45) hx hb dX11_chimesWith_41 (by decide) ?_
        exact tX11_chimesWith_b45 C0 hr5 h hH (lv_sub hl [0, 1, 2, 4] rfl)
set_option maxRecDepth 100000 in
set_option maxHeartbeats 4000000 in
theorem mX11_chimesWith (l : Launch) (dC : Nat → ClassId) (dI : Nat → Nat → Nat) (cI : ClassId) (q q_tongue q_refused q_fresh q_kept q_isKept q_text q_said q_talk : Nat) (m_thrown : Int32) (m_size : Int32) (m_at : Int32) (m_start : Int32) (m_token : Int32) (m_value : Int64) (m_faultAt : Int32) (m_allowed : Int32) (m_firstPair : Int32) (m_secondPair : Int32) (m_above : Int64) (m_below : Int64) (m_tongue : Nat → Int32) (x1 : Int32) (x2 : Int32)  {N : Nat} {out : Int32} (h : fX11_chimesWith N m_tongue x1 x2 = some out) : gm_Met l yX11_chimesWith wsX11_chimesWith rX11_chimesWith (dC, dI) [(cI, .int)] gm_T [.ref q, .int x1, .int x2] (wX11_chimesWith cI q q_tongue q_refused q_fresh q_kept q_isKept q_text q_said q_talk m_thrown m_size m_at m_start m_token m_value m_faultAt m_allowed m_firstPair m_secondPair m_above m_below m_tongue) (some (.int out)) (wX11_chimesWith cI q q_tongue q_refused q_fresh q_kept q_isKept q_text q_said q_talk m_thrown m_size m_at m_start m_token m_value m_faultAt m_allowed m_firstPair m_secondPair m_above m_below m_tongue) := by
  refine gm_ofW (cc := cX11_chimesWith) (maxL := 5) (ret := (some .int)) (by decide +kernel) rfl (Nat.le_of_ble_eq_true rfl) ?_
  intro p e s m below meth c A C0 hH ls hl
  generalize ([.ref q, .int x1, .int x2] : List Value).toArray = args at C0 ⊢
  have hl : lv_has ls 5 [(0, .ref q), (1, .int x1), (2, .int x2)] := hl
  generalize s.heap = H at hH ⊢
  generalize ([] : List Loc) = locs at hH ⊢
  obtain ⟨hx, hb, hml, hr, hown, hts, hA, hK, hX, hlocks⟩ := id C0
  unfold fX11_chimesWith at h
  refine lv_iconst (v := 0) hx hb dX11_chimesWith_0 (by decide) ?_
  refine lv_istore_n (lv' := [(3, .int 0), (0, .ref q), (1, .int x1), (2, .int x2)]) hx hb dX11_chimesWith_1 rfl hl (by decide) rfl (fun ls hl => ?_)
  refine lv_iconst (v := 0) hx hb dX11_chimesWith_2 (by decide) ?_
  refine lv_istore (lv' := [(4, .int 0), (3, .int 0), (0, .ref q), (1, .int x1), (2, .int x2)]) hx hb dX11_chimesWith_3 hl (by decide) rfl (fun ls hl => ?_)
  unfold fX11_chimesWith_b5 at h
  exact tX11_chimesWith_b5 C0  _ _ _ _ _ _ h hH (lv_sub hl [2, 3, 4, 1, 0] rfl)

/-! X11_answersTo -/
abbrev wX11_answersTo (cI : ClassId) (q q_tongue q_refused q_fresh q_kept q_isKept q_text q_said q_talk : Nat) (m_thrown : Int32) (m_size : Int32) (m_at : Int32) (m_start : Int32) (m_token : Int32) (m_value : Int64) (m_faultAt : Int32) (m_allowed : Int32) (m_firstPair : Int32) (m_secondPair : Int32) (m_above : Int64) (m_below : Int64) (m_tongue : Nat → Int32) : va_W := [(q, .inr (11, [.int m_thrown, .ref q_refused, .ref q_tongue, .ref q_fresh, .ref q_kept, .ref q_isKept, .ref q_text, .int m_size, .int m_at, .int m_start, .int m_token, .long m_value, .int m_faultAt, .ref q_said, .ref q_talk, .int m_allowed, .int m_firstPair, .int m_secondPair, .long m_above, .long m_below])), (q_tongue, .inl (cI, 73, .inl m_tongue))]
abbrev rX11_answersTo : Room := { frames := 5, cells := 0, slots := 0, locals := 113 }
def fX11_answersTo (N : Nat) (m_tongue : Nat → Int32) (x1 : Int32) (x2 : Int32) : Option (Int32) := gm_bind (fX11_chimesWith N m_tongue x1 x2) (fun o1 => gm_chk 2 73 (some ((o1 &&& ((m_tongue (Int32.toNatClampNeg 2)) ^^^ (-1))))))
set_option maxRecDepth 20000 in
theorem inX11_answersTo_X11 : ∀ w ∈ u_ws RX11 TX11 20, w ∈ wsX11_answersTo := fun w h => by
  obtain ⟨k, hk, rfl⟩ := List.mem_map.mp h
  have hk2 := List.mem_range.mp hk
  exact List.mem_of_getElem? (i := 42 + k) (by rcases (show k = 0 ∨ k = 1 ∨ k = 2 ∨ k = 3 ∨ k = 4 ∨ k = 5 ∨ k = 6 ∨ k = 7 ∨ k = 8 ∨ k = 9 ∨ k = 10 ∨ k = 11 ∨ k = 12 ∨ k = 13 ∨ k = 14 ∨ k = 15 ∨ k = 16 ∨ k = 17 ∨ k = 18 ∨ k = 19 by omega) with rfl | rfl | rfl | rfl | rfl | rfl | rfl | rfl | rfl | rfl | rfl | rfl | rfl | rfl | rfl | rfl | rfl | rfl | rfl | rfl <;> rfl)
set_option maxRecDepth 100000 in
set_option maxHeartbeats 4000000 in
theorem mX11_answersTo (l : Launch) (dC : Nat → ClassId) (dI : Nat → Nat → Nat) (cI : ClassId) (q q_tongue q_refused q_fresh q_kept q_isKept q_text q_said q_talk : Nat) (m_thrown : Int32) (m_size : Int32) (m_at : Int32) (m_start : Int32) (m_token : Int32) (m_value : Int64) (m_faultAt : Int32) (m_allowed : Int32) (m_firstPair : Int32) (m_secondPair : Int32) (m_above : Int64) (m_below : Int64) (m_tongue : Nat → Int32) (x1 : Int32) (x2 : Int32)  {N : Nat} {out : Int32} (h : fX11_answersTo N m_tongue x1 x2 = some out) : gm_Met l yX11_answersTo wsX11_answersTo rX11_answersTo (dC, dI) [(cI, .int)] gm_T [.ref q, .int x1, .int x2] (wX11_answersTo cI q q_tongue q_refused q_fresh q_kept q_isKept q_text q_said q_talk m_thrown m_size m_at m_start m_token m_value m_faultAt m_allowed m_firstPair m_secondPair m_above m_below m_tongue) (some (.int out)) (wX11_answersTo cI q q_tongue q_refused q_fresh q_kept q_isKept q_text q_said q_talk m_thrown m_size m_at m_start m_token m_value m_faultAt m_allowed m_firstPair m_secondPair m_above m_below m_tongue) := by
  refine gm_ofW (cc := cX11_answersTo) (maxL := 3) (ret := (some .int)) (by decide +kernel) rfl (Nat.le_of_ble_eq_true rfl) ?_
  intro p e s m below meth c A C0 hH ls hl
  generalize ([.ref q, .int x1, .int x2] : List Value).toArray = args at C0 ⊢
  have hl : lv_has ls 3 [(0, .ref q), (1, .int x1), (2, .int x2)] := hl
  generalize s.heap = H at hH ⊢
  generalize ([] : List Loc) = locs at hH ⊢
  obtain ⟨hx, hb, hml, hr, hown, hts, hA, hK, hX, hlocks⟩ := id C0
  unfold fX11_answersTo at h
  refine lv_aload_n hx hb dX11_answersTo_0 rfl (lv_at hl 0 rfl) ?_
  refine lv_iload_n hx hb dX11_answersTo_1 rfl (lv_at hl 1 rfl) ?_
  refine lv_iload_n hx hb dX11_answersTo_2 rfl (lv_at hl 2 rfl) ?_
  obtain ⟨o1, ho1, h⟩ := gm_bind_e h
  refine gm_callV (As := [.int x1, .int x2]) (rest := []) (n := 2) (ci := 11) (q0 := 0) C0 hH (mX11_chimesWith l dC dI cI q q_tongue q_refused q_fresh q_kept q_isKept q_text q_said q_talk m_thrown m_size m_at m_start m_token m_value m_faultAt m_allowed m_firstPair m_secondPair m_above m_below m_tongue x1 x2   ho1) gX11_answersTo_X11_chimesWith rfl (by decide +kernel) ⟨rfl, rfl, Nat.le_of_ble_eq_true rfl, Nat.le_of_ble_eq_true rfl⟩ gm_T_ok (fun _ => trivial) [0, 1] rfl rfl rfl [0] rfl rfl rfl rfl hl.1 rfl (Nat.le_of_ble_eq_true rfl) dX11_answersTo_3 ⟨Nat.zero_le _, Nat.zero_le _⟩ (fun H locs hH => ?_)
  have hH : gm_H (dC, dI) A s (wX11_answersTo cI q q_tongue q_refused q_fresh q_kept q_isKept q_text q_said q_talk m_thrown m_size m_at m_start m_token m_value m_faultAt m_allowed m_firstPair m_secondPair m_above m_below m_tongue) H locs := hH
  refine lv_aload_n hx hb dX11_answersTo_6 rfl (lv_at hl 0 rfl) ?_
  refine gm_get (ci := 11) C0 hH inX11_answersTo_X11 0 2 1 rfl rfl (by decide) rfl rfl dX11_answersTo_7 ?_
  refine lv_iconst (v := 2) hx hb dX11_answersTo_10 (by decide) ?_
  obtain ⟨hi2, h⟩ := gm_chk_e h
  refine gm_iald C0 hH hi2 1 0 rfl rfl dX11_answersTo_11 ?_
  refine lv_iconst (v := (-1)) hx hb dX11_answersTo_12 (by decide) ?_
  refine lv_ixor hx hb dX11_answersTo_13 ?_
  refine lv_iand hx hb dX11_answersTo_14 ?_
  obtain rfl := Option.some.inj h
  exact gm_iret C0 hH dX11_answersTo_15

/-! X11_meaningsOf -/
abbrev wX11_meaningsOf (cI : ClassId) (q q_tongue q_refused q_fresh q_kept q_isKept q_text q_said q_talk : Nat) (m_thrown : Int32) (m_size : Int32) (m_at : Int32) (m_start : Int32) (m_token : Int32) (m_value : Int64) (m_faultAt : Int32) (m_allowed : Int32) (m_firstPair : Int32) (m_secondPair : Int32) (m_above : Int64) (m_below : Int64) (m_tongue : Nat → Int32) : va_W := [(q, .inr (11, [.int m_thrown, .ref q_refused, .ref q_tongue, .ref q_fresh, .ref q_kept, .ref q_isKept, .ref q_text, .int m_size, .int m_at, .int m_start, .int m_token, .long m_value, .int m_faultAt, .ref q_said, .ref q_talk, .int m_allowed, .int m_firstPair, .int m_secondPair, .long m_above, .long m_below])), (q_tongue, .inl (cI, 73, .inl m_tongue))]
abbrev rX11_meaningsOf : Room := { frames := 1, cells := 0, slots := 0, locals := 21 }
def fX11_meaningsOf_b34 (N : Nat) (r4 : Int32 → Int32 → Option (Int32)) (m_tongue : Nat → Int32) (x1 : Int32) (x3 : Int32) (k0 : Int32) (k1 : Int32) : Option (Int32) := gm_let ((k0 ||| k1) : Int32) (fun (v5 : Int32) => (r4 v5 ((x3 + 1))))
def fX11_meaningsOf_b4_body (N : Nat)  (m_tongue : Nat → Int32) (x1 : Int32) (r4 : Int32 → Int32 → Option (Int32)) (x2 : Int32) (x3 : Int32) : Option (Int32) := gm_chk 0 73 ((if (m_tongue (Int32.toNatClampNeg 0)) ≤ x3 then some (x2) else gm_bind (fX11_has N x1 x3) (fun o3 => (if o3 = 0 then (fX11_meaningsOf_b34 N r4 m_tongue x1 x3 x2 0) else gm_bind (fX11_meaning N m_tongue x3) (fun o6 => (fX11_meaningsOf_b34 N r4 m_tongue x1 x3 x2 (((1 : Int32) <<< (o6 &&& 31)))))))))
def fX11_meaningsOf_b4 (N : Nat)  (m_tongue : Nat → Int32) (x1 : Int32) (x2 : Int32) (x3 : Int32) : Option (Int32) := gm_fix (fX11_meaningsOf_b4_body N  m_tongue x1) (fun _ _ => none) N x2 x3
def fX11_meaningsOf (N : Nat) (m_tongue : Nat → Int32) (x1 : Int32) : Option (Int32) := (fX11_meaningsOf_b4 N  m_tongue x1 0 0)
set_option maxRecDepth 20000 in
theorem inX11_meaningsOf_X11 : ∀ w ∈ u_ws RX11 TX11 20, w ∈ wsX11_meaningsOf := fun w h => by
  obtain ⟨k, hk, rfl⟩ := List.mem_map.mp h
  have hk2 := List.mem_range.mp hk
  exact List.mem_of_getElem? (i := 10 + k) (by rcases (show k = 0 ∨ k = 1 ∨ k = 2 ∨ k = 3 ∨ k = 4 ∨ k = 5 ∨ k = 6 ∨ k = 7 ∨ k = 8 ∨ k = 9 ∨ k = 10 ∨ k = 11 ∨ k = 12 ∨ k = 13 ∨ k = 14 ∨ k = 15 ∨ k = 16 ∨ k = 17 ∨ k = 18 ∨ k = 19 by omega) with rfl | rfl | rfl | rfl | rfl | rfl | rfl | rfl | rfl | rfl | rfl | rfl | rfl | rfl | rfl | rfl | rfl | rfl | rfl | rfl <;> rfl)
set_option maxRecDepth 100000 in
set_option maxHeartbeats 4000000 in
theorem tX11_meaningsOf_b34 {p : Program} {l : Launch} {e : Env} {s : State} {m : MethodId} {args : Array Value} {below : List Frame} {meth : Method} {c : Code} {A : Nat → Prop} {dC : Nat → ClassId} {dI : Nat → Nat → Nat} {cI : ClassId} {q q_tongue q_refused q_fresh q_kept q_isKept q_text q_said q_talk : Nat} {m_thrown : Int32} {m_size : Int32} {m_at : Int32} {m_start : Int32} {m_token : Int32} {m_value : Int64} {m_faultAt : Int32} {m_allowed : Int32} {m_firstPair : Int32} {m_secondPair : Int32} {m_above : Int64} {m_below : Int64} {m_tongue : Nat → Int32} {x1 : Int32} {x3 : Int32} {k0 : Int32} {k1 : Int32} (C0 : gm_C p s m args meth c (dC, dI) [(cI, .int)] A gm_T RX11 cX11_meaningsOf 4 (some .int) wsX11_meaningsOf) {N : Nat} {out : Int32} {r4 : Int32 → Int32 → Option (Int32)} (hr4 : ∀ (x2 : Int32) (x3 : Int32) (H : Heap) (locs : List Loc) (ls : Array Slot), r4 x2 x3 = some out → gm_H (dC, dI) A s (wX11_meaningsOf cI q q_tongue q_refused q_fresh q_kept q_isKept q_text q_said q_talk m_thrown m_size m_at m_start m_token m_value m_faultAt m_allowed m_firstPair m_secondPair m_above m_below m_tongue) H locs → lv_has ls 4 [(0, .ref q), (1, .int x1), (2, .int x2), (3, .int x3)] → W p l e rX11_meaningsOf s m args below meth c H locs 0 0 (MQ below (gm_Q (dC, dI) [(cI, .int)] A (some (.int out)) (wX11_meaningsOf cI q q_tongue q_refused q_fresh q_kept q_isKept q_text q_said q_talk m_thrown m_size m_at m_start m_token m_value m_faultAt m_allowed m_firstPair m_secondPair m_above m_below m_tongue)) args s 0 0 A) (F0 m 4 ls []))   {H : Heap} {locs : List Loc} {ls : Array Slot} (h : fX11_meaningsOf_b34 N r4 m_tongue x1 x3 k0 k1 = some out) (hH : gm_H (dC, dI) A s (wX11_meaningsOf cI q q_tongue q_refused q_fresh q_kept q_isKept q_text q_said q_talk m_thrown m_size m_at m_start m_token m_value m_faultAt m_allowed m_firstPair m_secondPair m_above m_below m_tongue) H locs) (hl : lv_has ls 4 [(0, .ref q), (1, .int x1), (3, .int x3)]) : W p l e rX11_meaningsOf s m args below meth c H locs 0 0 (MQ below (gm_Q (dC, dI) [(cI, .int)] A (some (.int out)) (wX11_meaningsOf cI q q_tongue q_refused q_fresh q_kept q_isKept q_text q_said q_talk m_thrown m_size m_at m_start m_token m_value m_faultAt m_allowed m_firstPair m_secondPair m_above m_below m_tongue)) args s 0 0 A) (F0 m 34 ls [.int k1, .int k0]) := by
  obtain ⟨hx, hb, hml, hr, hown, hts, hA, hK, hX, hlocks⟩ := id C0
  unfold fX11_meaningsOf_b34 at h
  refine lv_ior hx hb dX11_meaningsOf_34 ?_
  refine lv_topi (fun v5 ev5 => ?_)
  replace h := gm_let_e ev5 h
  refine lv_istore_n (lv' := [(2, .int v5), (0, .ref q), (1, .int x1), (3, .int x3)]) hx hb dX11_meaningsOf_35 rfl hl (by decide) rfl (fun ls hl => ?_)
  refine lv_iinc (v := (x3 + 1)) (lv' := [(3, .int (x3 + 1)), (2, .int v5), (0, .ref q), (1, .int x1)]) hx hb dX11_meaningsOf_36 hl (k := 3) rfl rfl (by decide) rfl (fun ls hl => ?_)
  refine lv_goto (tgt := 4) hx hb dX11_meaningsOf_39 (by decide) ?_
  exact hr4 _ _ _ _ _ h hH (lv_sub hl [2, 3, 1, 0] rfl)
set_option maxRecDepth 100000 in
set_option maxHeartbeats 4000000 in
theorem tX11_meaningsOf_b4 {p : Program} {l : Launch} {e : Env} {s : State} {m : MethodId} {args : Array Value} {below : List Frame} {meth : Method} {c : Code} {A : Nat → Prop} {dC : Nat → ClassId} {dI : Nat → Nat → Nat} {cI : ClassId} {q q_tongue q_refused q_fresh q_kept q_isKept q_text q_said q_talk : Nat} {m_thrown : Int32} {m_size : Int32} {m_at : Int32} {m_start : Int32} {m_token : Int32} {m_value : Int64} {m_faultAt : Int32} {m_allowed : Int32} {m_firstPair : Int32} {m_secondPair : Int32} {m_above : Int64} {m_below : Int64} {m_tongue : Nat → Int32} {x1 : Int32} (C0 : gm_C p s m args meth c (dC, dI) [(cI, .int)] A gm_T RX11 cX11_meaningsOf 4 (some .int) wsX11_meaningsOf) {N : Nat} {out : Int32}   : ∀ (n : Nat), ∀ (x2 : Int32) (x3 : Int32) (H : Heap) (locs : List Loc) (ls : Array Slot), (gm_fix (fX11_meaningsOf_b4_body N  m_tongue x1) (fun _ _ => none) n) x2 x3 = some out → gm_H (dC, dI) A s (wX11_meaningsOf cI q q_tongue q_refused q_fresh q_kept q_isKept q_text q_said q_talk m_thrown m_size m_at m_start m_token m_value m_faultAt m_allowed m_firstPair m_secondPair m_above m_below m_tongue) H locs → lv_has ls 4 [(0, .ref q), (1, .int x1), (2, .int x2), (3, .int x3)] → W p l e rX11_meaningsOf s m args below meth c H locs 0 0 (MQ below (gm_Q (dC, dI) [(cI, .int)] A (some (.int out)) (wX11_meaningsOf cI q q_tongue q_refused q_fresh q_kept q_isKept q_text q_said q_talk m_thrown m_size m_at m_start m_token m_value m_faultAt m_allowed m_firstPair m_secondPair m_above m_below m_tongue)) args s 0 0 A) (F0 m 4 ls []) := by
  obtain ⟨hx, hb, hml, hr, hown, hts, hA, hK, hX, hlocks⟩ := id C0
  intro n
  induction n with
  | zero =>
    intro x2 x3 H locs ls h hH hl
    cases h
  | succ n hr4 =>
    intro x2 x3 H locs ls h hH hl
    rw [gm_fix_s] at h
    unfold fX11_meaningsOf_b4_body at h
    refine lv_iload_n hx hb dX11_meaningsOf_4 rfl (lv_at hl 3 rfl) ?_
    refine lv_aload_n hx hb dX11_meaningsOf_5 rfl (lv_at hl 0 rfl) ?_
    refine gm_get (ci := 11) C0 hH inX11_meaningsOf_X11 0 2 1 rfl rfl (by decide) rfl rfl dX11_meaningsOf_6 ?_
    refine lv_iconst (v := 0) hx hb dX11_meaningsOf_9 (by decide) ?_
    obtain ⟨hi1, h⟩ := gm_chk_e h
    refine gm_iald C0 hH hi1 1 0 rfl rfl dX11_meaningsOf_10 ?_
    refine lv_icmp_ge (tgt := 42) hx hb dX11_meaningsOf_11 (by decide) (fun hc2 => ?_) (fun hc2 => ?_)
    · replace h := gm_pos hc2 h
      refine lv_iload_n hx hb dX11_meaningsOf_42 rfl (lv_at hl 2 rfl) ?_
      obtain rfl := Option.some.inj h
      exact gm_iret C0 hH dX11_meaningsOf_43
    · replace h := gm_neg hc2 h
      refine lv_iload_n hx hb dX11_meaningsOf_14 rfl (lv_at hl 2 rfl) ?_
      refine lv_iload_n hx hb dX11_meaningsOf_15 rfl (lv_at hl 1 rfl) ?_
      refine lv_iload_n hx hb dX11_meaningsOf_16 rfl (lv_at hl 3 rfl) ?_
      obtain ⟨o3, ho3, h⟩ := gm_bind_e h
      refine gm_callS (As := [.int x1, .int x3]) (rest := [.int x2]) (n := 2) C0 hH (mX11_has l dC dI    x1 x3   ho3) gX11_meaningsOf_X11_has rfl (by decide +kernel) ⟨rfl, rfl, Nat.le_of_ble_eq_true rfl, Nat.le_of_ble_eq_true rfl⟩ gm_T_ok (fun _ => trivial) [] rfl rfl rfl [] rfl rfl hl.1 rfl (Nat.le_of_ble_eq_true rfl) dX11_meaningsOf_17 ⟨Nat.zero_le _, Nat.zero_le _⟩ (fun H locs hH => ?_)
      have hH : gm_H (dC, dI) A s (wX11_meaningsOf cI q q_tongue q_refused q_fresh q_kept q_isKept q_text q_said q_talk m_thrown m_size m_at m_start m_token m_value m_faultAt m_allowed m_firstPair m_secondPair m_above m_below m_tongue) H locs := hH
      refine lv_if_eq (tgt := 33) hx hb dX11_meaningsOf_20 (by decide) (fun hc4 => ?_) (fun hc4 => ?_)
      · replace h := gm_pos hc4 h
        refine lv_iconst (v := 0) hx hb dX11_meaningsOf_33 (by decide) ?_
        exact tX11_meaningsOf_b34 C0 hr4 h hH (lv_sub hl [0, 1, 3] rfl)
      · replace h := gm_neg hc4 h
        refine lv_iconst (v := 1) hx hb dX11_meaningsOf_23 (by decide) ?_
        refine lv_aload_n hx hb dX11_meaningsOf_24 rfl (lv_at hl 0 rfl) ?_
        refine lv_iload_n hx hb dX11_meaningsOf_25 rfl (lv_at hl 3 rfl) ?_
        obtain ⟨o6, ho6, h⟩ := gm_bind_e h
        refine gm_callV (As := [.int x3]) (rest := [.int 1, .int x2]) (n := 1) (ci := 11) (q0 := 0) C0 hH (mX11_meaning l dC dI cI q q_tongue q_refused q_fresh q_kept q_isKept q_text q_said q_talk m_thrown m_size m_at m_start m_token m_value m_faultAt m_allowed m_firstPair m_secondPair m_above m_below m_tongue x3   ho6) gX11_meaningsOf_X11_meaning rfl (by decide +kernel) ⟨rfl, rfl, Nat.le_of_ble_eq_true rfl, Nat.le_of_ble_eq_true rfl⟩ gm_T_ok (fun _ => trivial) [0, 1] rfl rfl rfl [0] rfl rfl rfl rfl hl.1 rfl (Nat.le_of_ble_eq_true rfl) dX11_meaningsOf_26 ⟨Nat.zero_le _, Nat.zero_le _⟩ (fun H locs hH => ?_)
        have hH : gm_H (dC, dI) A s (wX11_meaningsOf cI q q_tongue q_refused q_fresh q_kept q_isKept q_text q_said q_talk m_thrown m_size m_at m_start m_token m_value m_faultAt m_allowed m_firstPair m_secondPair m_above m_below m_tongue) H locs := hH
        refine lv_ishl hx hb dX11_meaningsOf_29 ?_
        refine lv_goto (tgt := 34) hx hb dX11_meaningsOf_30 (by decide) ?_
        exact tX11_meaningsOf_b34 C0 hr4 h hH (lv_sub hl [0, 1, 3] rfl)
set_option maxRecDepth 100000 in
set_option maxHeartbeats 4000000 in
theorem mX11_meaningsOf (l : Launch) (dC : Nat → ClassId) (dI : Nat → Nat → Nat) (cI : ClassId) (q q_tongue q_refused q_fresh q_kept q_isKept q_text q_said q_talk : Nat) (m_thrown : Int32) (m_size : Int32) (m_at : Int32) (m_start : Int32) (m_token : Int32) (m_value : Int64) (m_faultAt : Int32) (m_allowed : Int32) (m_firstPair : Int32) (m_secondPair : Int32) (m_above : Int64) (m_below : Int64) (m_tongue : Nat → Int32) (x1 : Int32)  {N : Nat} {out : Int32} (h : fX11_meaningsOf N m_tongue x1 = some out) : gm_Met l yX11_meaningsOf wsX11_meaningsOf rX11_meaningsOf (dC, dI) [(cI, .int)] gm_T [.ref q, .int x1] (wX11_meaningsOf cI q q_tongue q_refused q_fresh q_kept q_isKept q_text q_said q_talk m_thrown m_size m_at m_start m_token m_value m_faultAt m_allowed m_firstPair m_secondPair m_above m_below m_tongue) (some (.int out)) (wX11_meaningsOf cI q q_tongue q_refused q_fresh q_kept q_isKept q_text q_said q_talk m_thrown m_size m_at m_start m_token m_value m_faultAt m_allowed m_firstPair m_secondPair m_above m_below m_tongue) := by
  refine gm_ofW (cc := cX11_meaningsOf) (maxL := 4) (ret := (some .int)) (by decide +kernel) rfl (Nat.le_of_ble_eq_true rfl) ?_
  intro p e s m below meth c A C0 hH ls hl
  generalize ([.ref q, .int x1] : List Value).toArray = args at C0 ⊢
  have hl : lv_has ls 4 [(0, .ref q), (1, .int x1)] := hl
  generalize s.heap = H at hH ⊢
  generalize ([] : List Loc) = locs at hH ⊢
  obtain ⟨hx, hb, hml, hr, hown, hts, hA, hK, hX, hlocks⟩ := id C0
  unfold fX11_meaningsOf at h
  refine lv_iconst (v := 0) hx hb dX11_meaningsOf_0 (by decide) ?_
  refine lv_istore_n (lv' := [(2, .int 0), (0, .ref q), (1, .int x1)]) hx hb dX11_meaningsOf_1 rfl hl (by decide) rfl (fun ls hl => ?_)
  refine lv_iconst (v := 0) hx hb dX11_meaningsOf_2 (by decide) ?_
  refine lv_istore_n (lv' := [(3, .int 0), (2, .int 0), (0, .ref q), (1, .int x1)]) hx hb dX11_meaningsOf_3 rfl hl (by decide) rfl (fun ls hl => ?_)
  unfold fX11_meaningsOf_b4 at h
  exact tX11_meaningsOf_b4 C0  _ _ _ _ _ _ h hH (lv_sub hl [2, 3, 1, 0] rfl)

/-! X11_canSay -/
abbrev wX11_canSay (cI : ClassId) (q q_tongue q_refused q_fresh q_kept q_isKept q_text q_said q_talk : Nat) (m_thrown : Int32) (m_size : Int32) (m_at : Int32) (m_start : Int32) (m_token : Int32) (m_value : Int64) (m_faultAt : Int32) (m_allowed : Int32) (m_firstPair : Int32) (m_secondPair : Int32) (m_above : Int64) (m_below : Int64) (m_tongue : Nat → Int32) : va_W := [(q, .inr (11, [.int m_thrown, .ref q_refused, .ref q_tongue, .ref q_fresh, .ref q_kept, .ref q_isKept, .ref q_text, .int m_size, .int m_at, .int m_start, .int m_token, .long m_value, .int m_faultAt, .ref q_said, .ref q_talk, .int m_allowed, .int m_firstPair, .int m_secondPair, .long m_above, .long m_below])), (q_tongue, .inl (cI, 73, .inl m_tongue))]
abbrev rX11_canSay : Room := { frames := 6, cells := 0, slots := 0, locals := 135 }
def fX11_canSay (N : Nat) (m_tongue : Nat → Int32) (x1 : Int32) (x2 : Int32) : Option (Int32) := gm_bind (fX11_answersTo N m_tongue x1 x2) (fun o1 => gm_bind (fX11_meaningsOf N m_tongue o1) (fun o2 => some (o2)))
set_option maxRecDepth 20000 in
theorem inX11_canSay_X11 : ∀ w ∈ u_ws RX11 TX11 20, w ∈ wsX11_canSay := fun w h => by
  obtain ⟨k, hk, rfl⟩ := List.mem_map.mp h
  have hk2 := List.mem_range.mp hk
  exact List.mem_of_getElem? (i := 50 + k) (by rcases (show k = 0 ∨ k = 1 ∨ k = 2 ∨ k = 3 ∨ k = 4 ∨ k = 5 ∨ k = 6 ∨ k = 7 ∨ k = 8 ∨ k = 9 ∨ k = 10 ∨ k = 11 ∨ k = 12 ∨ k = 13 ∨ k = 14 ∨ k = 15 ∨ k = 16 ∨ k = 17 ∨ k = 18 ∨ k = 19 by omega) with rfl | rfl | rfl | rfl | rfl | rfl | rfl | rfl | rfl | rfl | rfl | rfl | rfl | rfl | rfl | rfl | rfl | rfl | rfl | rfl <;> rfl)
set_option maxRecDepth 100000 in
set_option maxHeartbeats 4000000 in
theorem mX11_canSay (l : Launch) (dC : Nat → ClassId) (dI : Nat → Nat → Nat) (cI : ClassId) (q q_tongue q_refused q_fresh q_kept q_isKept q_text q_said q_talk : Nat) (m_thrown : Int32) (m_size : Int32) (m_at : Int32) (m_start : Int32) (m_token : Int32) (m_value : Int64) (m_faultAt : Int32) (m_allowed : Int32) (m_firstPair : Int32) (m_secondPair : Int32) (m_above : Int64) (m_below : Int64) (m_tongue : Nat → Int32) (x1 : Int32) (x2 : Int32)  {N : Nat} {out : Int32} (h : fX11_canSay N m_tongue x1 x2 = some out) : gm_Met l yX11_canSay wsX11_canSay rX11_canSay (dC, dI) [(cI, .int)] gm_T [.ref q, .int x1, .int x2] (wX11_canSay cI q q_tongue q_refused q_fresh q_kept q_isKept q_text q_said q_talk m_thrown m_size m_at m_start m_token m_value m_faultAt m_allowed m_firstPair m_secondPair m_above m_below m_tongue) (some (.int out)) (wX11_canSay cI q q_tongue q_refused q_fresh q_kept q_isKept q_text q_said q_talk m_thrown m_size m_at m_start m_token m_value m_faultAt m_allowed m_firstPair m_secondPair m_above m_below m_tongue) := by
  refine gm_ofW (cc := cX11_canSay) (maxL := 3) (ret := (some .int)) (by decide +kernel) rfl (Nat.le_of_ble_eq_true rfl) ?_
  intro p e s m below meth c A C0 hH ls hl
  generalize ([.ref q, .int x1, .int x2] : List Value).toArray = args at C0 ⊢
  have hl : lv_has ls 3 [(0, .ref q), (1, .int x1), (2, .int x2)] := hl
  generalize s.heap = H at hH ⊢
  generalize ([] : List Loc) = locs at hH ⊢
  obtain ⟨hx, hb, hml, hr, hown, hts, hA, hK, hX, hlocks⟩ := id C0
  unfold fX11_canSay at h
  refine lv_aload_n hx hb dX11_canSay_0 rfl (lv_at hl 0 rfl) ?_
  refine lv_aload_n hx hb dX11_canSay_1 rfl (lv_at hl 0 rfl) ?_
  refine lv_iload_n hx hb dX11_canSay_2 rfl (lv_at hl 1 rfl) ?_
  refine lv_iload_n hx hb dX11_canSay_3 rfl (lv_at hl 2 rfl) ?_
  obtain ⟨o1, ho1, h⟩ := gm_bind_e h
  refine gm_callV (As := [.int x1, .int x2]) (rest := [.ref q]) (n := 2) (ci := 11) (q0 := 0) C0 hH (mX11_answersTo l dC dI cI q q_tongue q_refused q_fresh q_kept q_isKept q_text q_said q_talk m_thrown m_size m_at m_start m_token m_value m_faultAt m_allowed m_firstPair m_secondPair m_above m_below m_tongue x1 x2   ho1) gX11_canSay_X11_answersTo rfl (by decide +kernel) ⟨rfl, rfl, Nat.le_of_ble_eq_true rfl, Nat.le_of_ble_eq_true rfl⟩ gm_T_ok (fun _ => trivial) [0, 1] rfl rfl rfl [0] rfl rfl rfl rfl hl.1 rfl (Nat.le_of_ble_eq_true rfl) dX11_canSay_4 ⟨Nat.zero_le _, Nat.zero_le _⟩ (fun H locs hH => ?_)
  have hH : gm_H (dC, dI) A s (wX11_canSay cI q q_tongue q_refused q_fresh q_kept q_isKept q_text q_said q_talk m_thrown m_size m_at m_start m_token m_value m_faultAt m_allowed m_firstPair m_secondPair m_above m_below m_tongue) H locs := hH
  obtain ⟨o2, ho2, h⟩ := gm_bind_e h
  refine gm_callV (As := [.int o1]) (rest := []) (n := 1) (ci := 11) (q0 := 0) C0 hH (mX11_meaningsOf l dC dI cI q q_tongue q_refused q_fresh q_kept q_isKept q_text q_said q_talk m_thrown m_size m_at m_start m_token m_value m_faultAt m_allowed m_firstPair m_secondPair m_above m_below m_tongue o1   ho2) gX11_canSay_X11_meaningsOf rfl (by decide +kernel) ⟨rfl, rfl, Nat.le_of_ble_eq_true rfl, Nat.le_of_ble_eq_true rfl⟩ gm_T_ok (fun _ => trivial) [0, 1] rfl rfl rfl [0] rfl rfl rfl rfl hl.1 rfl (Nat.le_of_ble_eq_true rfl) dX11_canSay_7 ⟨Nat.zero_le _, Nat.zero_le _⟩ (fun H locs hH => ?_)
  have hH : gm_H (dC, dI) A s (wX11_canSay cI q q_tongue q_refused q_fresh q_kept q_isKept q_text q_said q_talk m_thrown m_size m_at m_start m_token m_value m_faultAt m_allowed m_firstPair m_secondPair m_above m_below m_tongue) H locs := hH
  obtain rfl := Option.some.inj h
  exact gm_iret C0 hH dX11_canSay_10

/-! X11_ask -/
abbrev wX11_ask (cI : ClassId) (q q_refused q_tongue q_fresh q_kept q_isKept q_text q_said q_talk : Nat) (m_thrown : Int32) (m_size : Int32) (m_at : Int32) (m_start : Int32) (m_token : Int32) (m_value : Int64) (m_faultAt : Int32) (m_allowed : Int32) (m_firstPair : Int32) (m_secondPair : Int32) (m_above : Int64) (m_below : Int64) (m_refused : Nat → Int32) (m_tongue : Nat → Int32) : va_W := [(q, .inr (11, [.int m_thrown, .ref q_refused, .ref q_tongue, .ref q_fresh, .ref q_kept, .ref q_isKept, .ref q_text, .int m_size, .int m_at, .int m_start, .int m_token, .long m_value, .int m_faultAt, .ref q_said, .ref q_talk, .int m_allowed, .int m_firstPair, .int m_secondPair, .long m_above, .long m_below])), (q_refused, .inl (cI, 3, .inl m_refused)), (q_tongue, .inl (cI, 73, .inl m_tongue))]
abbrev rX11_ask : Room := { frames := 6, cells := 0, slots := 0, locals := 135 }
def fX11_ask_b29 (N : Nat)  (m_thrown : Int32) (m_refused : Nat → Int32) (m_tongue : Nat → Int32) : Option (Int32 × Int32 × (Nat → Int32) × (Nat → Int32)) := gm_bind (fX11_bad N m_refused) (fun o3 => some (o3.1, m_thrown, o3.2, m_tongue))
def fX11_ask_b111 (N : Nat)  (m_thrown : Int32) (m_refused : Nat → Int32) (m_tongue : Nat → Int32) (x3 : Int32) : Option (Int32 × Int32 × (Nat → Int32) × (Nat → Int32)) := gm_chk 4 73 (gm_chk 2 73 (gm_chk ((65 + (m_tongue (Int32.toNatClampNeg 4)))) 73 (gm_chk 4 73 (gm_chk 4 73 (gm_chk 2 73 (gm_chk 2 73 (gm_bind (fX11_meaning N (upd (upd (upd m_tongue (Int32.toNatClampNeg ((65 + (m_tongue (Int32.toNatClampNeg 4))))) ((m_tongue (Int32.toNatClampNeg 2)))) (Int32.toNatClampNeg 4) ((((upd m_tongue (Int32.toNatClampNeg ((65 + (m_tongue (Int32.toNatClampNeg 4))))) ((m_tongue (Int32.toNatClampNeg 2)))) (Int32.toNatClampNeg 4)) + 1))) (Int32.toNatClampNeg 2) ((((upd (upd m_tongue (Int32.toNatClampNeg ((65 + (m_tongue (Int32.toNatClampNeg 4))))) ((m_tongue (Int32.toNatClampNeg 2)))) (Int32.toNatClampNeg 4) ((((upd m_tongue (Int32.toNatClampNeg ((65 + (m_tongue (Int32.toNatClampNeg 4))))) ((m_tongue (Int32.toNatClampNeg 2)))) (Int32.toNatClampNeg 4)) + 1))) (Int32.toNatClampNeg 2)) ||| ((1 : Int32) <<< (x3 &&& 31))))) x3) (fun o20 => some (o20, m_thrown, m_refused, upd (upd (upd m_tongue (Int32.toNatClampNeg ((65 + (m_tongue (Int32.toNatClampNeg 4))))) ((m_tongue (Int32.toNatClampNeg 2)))) (Int32.toNatClampNeg 4) ((((upd m_tongue (Int32.toNatClampNeg ((65 + (m_tongue (Int32.toNatClampNeg 4))))) ((m_tongue (Int32.toNatClampNeg 2)))) (Int32.toNatClampNeg 4)) + 1))) (Int32.toNatClampNeg 2) ((((upd (upd m_tongue (Int32.toNatClampNeg ((65 + (m_tongue (Int32.toNatClampNeg 4))))) ((m_tongue (Int32.toNatClampNeg 2)))) (Int32.toNatClampNeg 4) ((((upd m_tongue (Int32.toNatClampNeg ((65 + (m_tongue (Int32.toNatClampNeg 4))))) ((m_tongue (Int32.toNatClampNeg 2)))) (Int32.toNatClampNeg 4)) + 1))) (Int32.toNatClampNeg 2)) ||| ((1 : Int32) <<< (x3 &&& 31)))))))))))))
def fX11_ask_b101 (N : Nat)  (m_thrown : Int32) (m_refused : Nat → Int32) (m_tongue : Nat → Int32) (x3 : Int32) : Option (Int32 × Int32 × (Nat → Int32) × (Nat → Int32)) := gm_chk 4 73 (gm_chk 4 73 ((fX11_ask_b111 N  m_thrown m_refused (upd m_tongue (Int32.toNatClampNeg 4) (((m_tongue (Int32.toNatClampNeg 4)) - 1))) x3)))
def fX11_ask_b66_body (N : Nat)  (m_thrown : Int32) (m_refused : Nat → Int32) (x3 : Int32) (r66 : (Nat → Int32) → Int32 → Option (Int32 × Int32 × (Nat → Int32) × (Nat → Int32))) (m_tongue : Nat → Int32) (x4 : Int32) : Option (Int32 × Int32 × (Nat → Int32) × (Nat → Int32)) := (if 7 ≤ x4 then (fX11_ask_b101 N  m_thrown m_refused m_tongue x3) else gm_chk (((65 + x4) + 1)) 73 (gm_chk ((65 + x4)) 73 ((r66 (upd m_tongue (Int32.toNatClampNeg ((65 + x4))) ((m_tongue (Int32.toNatClampNeg (((65 + x4) + 1)))))) ((x4 + 1))))))
def fX11_ask_b66 (N : Nat)  (m_thrown : Int32) (m_refused : Nat → Int32) (x3 : Int32) (m_tongue : Nat → Int32) (x4 : Int32) : Option (Int32 × Int32 × (Nat → Int32) × (Nat → Int32)) := gm_fix (fX11_ask_b66_body N  m_thrown m_refused x3) (fun _ _ => none) N m_tongue x4
def fX11_ask (N : Nat) (m_thrown : Int32) (m_refused : Nat → Int32) (m_tongue : Nat → Int32) (x1 : Int32) (x2 : Int32) (x3 : Int32) : Option (Int32 × Int32 × (Nat → Int32) × (Nat → Int32)) := gm_bind (fX11_noPerson N m_tongue x1) (fun o1 => (if o1 = 0 then gm_bind (fX11_noWord N m_tongue x2) (fun o4 => (if o4 = 0 then gm_bind (fX11_noWord N m_tongue x3) (fun o6 => (if o6 = 0 then gm_bind (fX11_answersTo N m_tongue x1 x2) (fun o8 => gm_bind (fX11_has N o8 x3) (fun o9 => (if o9 = 0 then gm_bind (fX11_no N m_refused) (fun o26 => some (o26.1, 0, o26.2, m_tongue)) else gm_chk 4 73 ((if (m_tongue (Int32.toNatClampNeg 4)) = 8 then (fX11_ask_b66 N  0 m_refused x3 m_tongue 0) else (fX11_ask_b111 N  0 m_refused m_tongue x3)))))) else (fX11_ask_b29 N  0 m_refused m_tongue))) else (fX11_ask_b29 N  0 m_refused m_tongue))) else (fX11_ask_b29 N  0 m_refused m_tongue)))
set_option maxRecDepth 20000 in
theorem inX11_ask_X11 : ∀ w ∈ u_ws RX11 TX11 20, w ∈ wsX11_ask := fun w h => by
  obtain ⟨k, hk, rfl⟩ := List.mem_map.mp h
  have hk2 := List.mem_range.mp hk
  exact List.mem_of_getElem? (i := 71 + k) (by rcases (show k = 0 ∨ k = 1 ∨ k = 2 ∨ k = 3 ∨ k = 4 ∨ k = 5 ∨ k = 6 ∨ k = 7 ∨ k = 8 ∨ k = 9 ∨ k = 10 ∨ k = 11 ∨ k = 12 ∨ k = 13 ∨ k = 14 ∨ k = 15 ∨ k = 16 ∨ k = 17 ∨ k = 18 ∨ k = 19 by omega) with rfl | rfl | rfl | rfl | rfl | rfl | rfl | rfl | rfl | rfl | rfl | rfl | rfl | rfl | rfl | rfl | rfl | rfl | rfl | rfl <;> rfl)
set_option maxRecDepth 100000 in
set_option maxHeartbeats 4000000 in
theorem tX11_ask_b29 {p : Program} {l : Launch} {e : Env} {s : State} {m : MethodId} {args : Array Value} {below : List Frame} {meth : Method} {c : Code} {A : Nat → Prop} {dC : Nat → ClassId} {dI : Nat → Nat → Nat} {cI : ClassId} {q q_refused q_tongue q_fresh q_kept q_isKept q_text q_said q_talk : Nat} {m_thrown : Int32} {m_size : Int32} {m_at : Int32} {m_start : Int32} {m_token : Int32} {m_value : Int64} {m_faultAt : Int32} {m_allowed : Int32} {m_firstPair : Int32} {m_secondPair : Int32} {m_above : Int64} {m_below : Int64} {m_refused : Nat → Int32} {m_tongue : Nat → Int32} (C0 : gm_C p s m args meth c (dC, dI) [(cI, .int)] A gm_T RX11 cX11_ask 5 (some .int) wsX11_ask) {N : Nat} {out : Int32 × Int32 × (Nat → Int32) × (Nat → Int32)}    {H : Heap} {locs : List Loc} {ls : Array Slot} (h : fX11_ask_b29 N  m_thrown m_refused m_tongue = some out) (hH : gm_H (dC, dI) A s (wX11_ask cI q q_refused q_tongue q_fresh q_kept q_isKept q_text q_said q_talk m_thrown m_size m_at m_start m_token m_value m_faultAt m_allowed m_firstPair m_secondPair m_above m_below m_refused m_tongue) H locs) (hl : lv_has ls 5 [(0, .ref q)]) : W p l e rX11_ask s m args below meth c H locs 0 0 (MQ below (gm_Q (dC, dI) [(cI, .int)] A (some (.int out.1)) (wX11_ask cI q q_refused q_tongue q_fresh q_kept q_isKept q_text q_said q_talk out.2.1 m_size m_at m_start m_token m_value m_faultAt m_allowed m_firstPair m_secondPair m_above m_below out.2.2.1 out.2.2.2)) args s 0 0 A) (F0 m 29 ls []) := by
  obtain ⟨hx, hb, hml, hr, hown, hts, hA, hK, hX, hlocks⟩ := id C0
  unfold fX11_ask_b29 at h
  refine lv_aload_n hx hb dX11_ask_29 rfl (lv_at hl 0 rfl) ?_
  obtain ⟨o3, ho3, h⟩ := gm_bind_e h
  refine gm_callV (As := []) (rest := []) (n := 0) (ci := 11) (q0 := 0) C0 hH (mX11_bad l dC dI cI q q_refused q_tongue q_fresh q_kept q_isKept q_text q_said q_talk m_thrown m_size m_at m_start m_token m_value m_faultAt m_allowed m_firstPair m_secondPair m_above m_below m_refused    ho3) gX11_ask_X11_bad rfl (by decide +kernel) ⟨rfl, rfl, Nat.le_of_ble_eq_true rfl, Nat.le_of_ble_eq_true rfl⟩ gm_T_ok (fun _ => trivial) [0, 1] rfl rfl rfl [0] rfl rfl rfl rfl hl.1 rfl (Nat.le_of_ble_eq_true rfl) dX11_ask_30 ⟨Nat.zero_le _, Nat.zero_le _⟩ (fun H locs hH => ?_)
  have hH : gm_H (dC, dI) A s (wX11_ask cI q q_refused q_tongue q_fresh q_kept q_isKept q_text q_said q_talk m_thrown m_size m_at m_start m_token m_value m_faultAt m_allowed m_firstPair m_secondPair m_above m_below o3.2 m_tongue) H locs := hH
  obtain rfl := Option.some.inj h
  exact gm_iret C0 hH dX11_ask_33
set_option maxRecDepth 100000 in
set_option maxHeartbeats 4000000 in
theorem tX11_ask_b111 {p : Program} {l : Launch} {e : Env} {s : State} {m : MethodId} {args : Array Value} {below : List Frame} {meth : Method} {c : Code} {A : Nat → Prop} {dC : Nat → ClassId} {dI : Nat → Nat → Nat} {cI : ClassId} {q q_refused q_tongue q_fresh q_kept q_isKept q_text q_said q_talk : Nat} {m_thrown : Int32} {m_size : Int32} {m_at : Int32} {m_start : Int32} {m_token : Int32} {m_value : Int64} {m_faultAt : Int32} {m_allowed : Int32} {m_firstPair : Int32} {m_secondPair : Int32} {m_above : Int64} {m_below : Int64} {m_refused : Nat → Int32} {m_tongue : Nat → Int32} {x3 : Int32} (C0 : gm_C p s m args meth c (dC, dI) [(cI, .int)] A gm_T RX11 cX11_ask 5 (some .int) wsX11_ask) {N : Nat} {out : Int32 × Int32 × (Nat → Int32) × (Nat → Int32)}    {H : Heap} {locs : List Loc} {ls : Array Slot} (h : fX11_ask_b111 N  m_thrown m_refused m_tongue x3 = some out) (hH : gm_H (dC, dI) A s (wX11_ask cI q q_refused q_tongue q_fresh q_kept q_isKept q_text q_said q_talk m_thrown m_size m_at m_start m_token m_value m_faultAt m_allowed m_firstPair m_secondPair m_above m_below m_refused m_tongue) H locs) (hl : lv_has ls 5 [(0, .ref q), (3, .int x3)]) : W p l e rX11_ask s m args below meth c H locs 0 0 (MQ below (gm_Q (dC, dI) [(cI, .int)] A (some (.int out.1)) (wX11_ask cI q q_refused q_tongue q_fresh q_kept q_isKept q_text q_said q_talk out.2.1 m_size m_at m_start m_token m_value m_faultAt m_allowed m_firstPair m_secondPair m_above m_below out.2.2.1 out.2.2.2)) args s 0 0 A) (F0 m 111 ls []) := by
  obtain ⟨hx, hb, hml, hr, hown, hts, hA, hK, hX, hlocks⟩ := id C0
  unfold fX11_ask_b111 at h
  refine lv_aload_n hx hb dX11_ask_111 rfl (lv_at hl 0 rfl) ?_
  refine gm_get (ci := 11) C0 hH inX11_ask_X11 0 2 2 rfl rfl (by decide) rfl rfl dX11_ask_112 ?_
  refine lv_bipush (v := 65) hx hb dX11_ask_115 (by decide) ?_
  refine lv_aload_n hx hb dX11_ask_117 rfl (lv_at hl 0 rfl) ?_
  refine gm_get (ci := 11) C0 hH inX11_ask_X11 0 2 2 rfl rfl (by decide) rfl rfl dX11_ask_118 ?_
  refine lv_iconst (v := 4) hx hb dX11_ask_121 (by decide) ?_
  obtain ⟨hi13, h⟩ := gm_chk_e h
  refine gm_iald C0 hH hi13 2 0 rfl rfl dX11_ask_122 ?_
  refine lv_iadd hx hb dX11_ask_123 ?_
  refine lv_aload_n hx hb dX11_ask_124 rfl (lv_at hl 0 rfl) ?_
  refine gm_get (ci := 11) C0 hH inX11_ask_X11 0 2 2 rfl rfl (by decide) rfl rfl dX11_ask_125 ?_
  refine lv_iconst (v := 2) hx hb dX11_ask_128 (by decide) ?_
  obtain ⟨hi14, h⟩ := gm_chk_e h
  refine gm_iald C0 hH hi14 2 0 rfl rfl dX11_ask_129 ?_
  obtain ⟨hi15, h⟩ := gm_chk_e h
  refine gm_iast C0 hH hi15 2 0 rfl rfl dX11_ask_130 (fun H locs hH => ?_)
  have hH : gm_H (dC, dI) A s (wX11_ask cI q q_refused q_tongue q_fresh q_kept q_isKept q_text q_said q_talk m_thrown m_size m_at m_start m_token m_value m_faultAt m_allowed m_firstPair m_secondPair m_above m_below m_refused (upd m_tongue (Int32.toNatClampNeg ((65 + (m_tongue (Int32.toNatClampNeg 4))))) ((m_tongue (Int32.toNatClampNeg 2))))) H locs := hH
  refine lv_aload_n hx hb dX11_ask_131 rfl (lv_at hl 0 rfl) ?_
  refine gm_get (ci := 11) C0 hH inX11_ask_X11 0 2 2 rfl rfl (by decide) rfl rfl dX11_ask_132 ?_
  refine lv_iconst (v := 4) hx hb dX11_ask_135 (by decide) ?_
  refine lv_dup2_11 hx hb dX11_ask_136 rfl rfl ?_
  obtain ⟨hi16, h⟩ := gm_chk_e h
  refine gm_iald C0 hH hi16 2 0 rfl rfl dX11_ask_137 ?_
  refine lv_iconst (v := 1) hx hb dX11_ask_138 (by decide) ?_
  refine lv_iadd hx hb dX11_ask_139 ?_
  obtain ⟨hi17, h⟩ := gm_chk_e h
  refine gm_iast C0 hH hi17 2 0 rfl rfl dX11_ask_140 (fun H locs hH => ?_)
  have hH : gm_H (dC, dI) A s (wX11_ask cI q q_refused q_tongue q_fresh q_kept q_isKept q_text q_said q_talk m_thrown m_size m_at m_start m_token m_value m_faultAt m_allowed m_firstPair m_secondPair m_above m_below m_refused (upd (upd m_tongue (Int32.toNatClampNeg ((65 + (m_tongue (Int32.toNatClampNeg 4))))) ((m_tongue (Int32.toNatClampNeg 2)))) (Int32.toNatClampNeg 4) ((((upd m_tongue (Int32.toNatClampNeg ((65 + (m_tongue (Int32.toNatClampNeg 4))))) ((m_tongue (Int32.toNatClampNeg 2)))) (Int32.toNatClampNeg 4)) + 1)))) H locs := hH
  refine lv_aload_n hx hb dX11_ask_141 rfl (lv_at hl 0 rfl) ?_
  refine gm_get (ci := 11) C0 hH inX11_ask_X11 0 2 2 rfl rfl (by decide) rfl rfl dX11_ask_142 ?_
  refine lv_iconst (v := 2) hx hb dX11_ask_145 (by decide) ?_
  refine lv_dup2_11 hx hb dX11_ask_146 rfl rfl ?_
  obtain ⟨hi18, h⟩ := gm_chk_e h
  refine gm_iald C0 hH hi18 2 0 rfl rfl dX11_ask_147 ?_
  refine lv_iconst (v := 1) hx hb dX11_ask_148 (by decide) ?_
  refine lv_iload_n hx hb dX11_ask_149 rfl (lv_at hl 1 rfl) ?_
  refine lv_ishl hx hb dX11_ask_150 ?_
  refine lv_ior hx hb dX11_ask_151 ?_
  obtain ⟨hi19, h⟩ := gm_chk_e h
  refine gm_iast C0 hH hi19 2 0 rfl rfl dX11_ask_152 (fun H locs hH => ?_)
  have hH : gm_H (dC, dI) A s (wX11_ask cI q q_refused q_tongue q_fresh q_kept q_isKept q_text q_said q_talk m_thrown m_size m_at m_start m_token m_value m_faultAt m_allowed m_firstPair m_secondPair m_above m_below m_refused (upd (upd (upd m_tongue (Int32.toNatClampNeg ((65 + (m_tongue (Int32.toNatClampNeg 4))))) ((m_tongue (Int32.toNatClampNeg 2)))) (Int32.toNatClampNeg 4) ((((upd m_tongue (Int32.toNatClampNeg ((65 + (m_tongue (Int32.toNatClampNeg 4))))) ((m_tongue (Int32.toNatClampNeg 2)))) (Int32.toNatClampNeg 4)) + 1))) (Int32.toNatClampNeg 2) ((((upd (upd m_tongue (Int32.toNatClampNeg ((65 + (m_tongue (Int32.toNatClampNeg 4))))) ((m_tongue (Int32.toNatClampNeg 2)))) (Int32.toNatClampNeg 4) ((((upd m_tongue (Int32.toNatClampNeg ((65 + (m_tongue (Int32.toNatClampNeg 4))))) ((m_tongue (Int32.toNatClampNeg 2)))) (Int32.toNatClampNeg 4)) + 1))) (Int32.toNatClampNeg 2)) ||| ((1 : Int32) <<< (x3 &&& 31)))))) H locs := hH
  refine lv_aload_n hx hb dX11_ask_153 rfl (lv_at hl 0 rfl) ?_
  refine lv_iload_n hx hb dX11_ask_154 rfl (lv_at hl 1 rfl) ?_
  obtain ⟨o20, ho20, h⟩ := gm_bind_e h
  refine gm_callV (As := [.int x3]) (rest := []) (n := 1) (ci := 11) (q0 := 0) C0 hH (mX11_meaning l dC dI cI q q_tongue q_refused q_fresh q_kept q_isKept q_text q_said q_talk m_thrown m_size m_at m_start m_token m_value m_faultAt m_allowed m_firstPair m_secondPair m_above m_below (upd (upd (upd m_tongue (Int32.toNatClampNeg ((65 + (m_tongue (Int32.toNatClampNeg 4))))) ((m_tongue (Int32.toNatClampNeg 2)))) (Int32.toNatClampNeg 4) ((((upd m_tongue (Int32.toNatClampNeg ((65 + (m_tongue (Int32.toNatClampNeg 4))))) ((m_tongue (Int32.toNatClampNeg 2)))) (Int32.toNatClampNeg 4)) + 1))) (Int32.toNatClampNeg 2) ((((upd (upd m_tongue (Int32.toNatClampNeg ((65 + (m_tongue (Int32.toNatClampNeg 4))))) ((m_tongue (Int32.toNatClampNeg 2)))) (Int32.toNatClampNeg 4) ((((upd m_tongue (Int32.toNatClampNeg ((65 + (m_tongue (Int32.toNatClampNeg 4))))) ((m_tongue (Int32.toNatClampNeg 2)))) (Int32.toNatClampNeg 4)) + 1))) (Int32.toNatClampNeg 2)) ||| ((1 : Int32) <<< (x3 &&& 31))))) x3   ho20) gX11_ask_X11_meaning rfl (by decide +kernel) ⟨rfl, rfl, Nat.le_of_ble_eq_true rfl, Nat.le_of_ble_eq_true rfl⟩ gm_T_ok (fun _ => trivial) [0, 2] rfl rfl rfl [0] rfl rfl rfl rfl hl.1 rfl (Nat.le_of_ble_eq_true rfl) dX11_ask_155 ⟨Nat.zero_le _, Nat.zero_le _⟩ (fun H locs hH => ?_)
  have hH : gm_H (dC, dI) A s (wX11_ask cI q q_refused q_tongue q_fresh q_kept q_isKept q_text q_said q_talk m_thrown m_size m_at m_start m_token m_value m_faultAt m_allowed m_firstPair m_secondPair m_above m_below m_refused (upd (upd (upd m_tongue (Int32.toNatClampNeg ((65 + (m_tongue (Int32.toNatClampNeg 4))))) ((m_tongue (Int32.toNatClampNeg 2)))) (Int32.toNatClampNeg 4) ((((upd m_tongue (Int32.toNatClampNeg ((65 + (m_tongue (Int32.toNatClampNeg 4))))) ((m_tongue (Int32.toNatClampNeg 2)))) (Int32.toNatClampNeg 4)) + 1))) (Int32.toNatClampNeg 2) ((((upd (upd m_tongue (Int32.toNatClampNeg ((65 + (m_tongue (Int32.toNatClampNeg 4))))) ((m_tongue (Int32.toNatClampNeg 2)))) (Int32.toNatClampNeg 4) ((((upd m_tongue (Int32.toNatClampNeg ((65 + (m_tongue (Int32.toNatClampNeg 4))))) ((m_tongue (Int32.toNatClampNeg 2)))) (Int32.toNatClampNeg 4)) + 1))) (Int32.toNatClampNeg 2)) ||| ((1 : Int32) <<< (x3 &&& 31)))))) H locs := hH
  obtain rfl := Option.some.inj h
  exact gm_iret C0 hH dX11_ask_158
set_option maxRecDepth 100000 in
set_option maxHeartbeats 4000000 in
theorem tX11_ask_b101 {p : Program} {l : Launch} {e : Env} {s : State} {m : MethodId} {args : Array Value} {below : List Frame} {meth : Method} {c : Code} {A : Nat → Prop} {dC : Nat → ClassId} {dI : Nat → Nat → Nat} {cI : ClassId} {q q_refused q_tongue q_fresh q_kept q_isKept q_text q_said q_talk : Nat} {m_thrown : Int32} {m_size : Int32} {m_at : Int32} {m_start : Int32} {m_token : Int32} {m_value : Int64} {m_faultAt : Int32} {m_allowed : Int32} {m_firstPair : Int32} {m_secondPair : Int32} {m_above : Int64} {m_below : Int64} {m_refused : Nat → Int32} {m_tongue : Nat → Int32} {x3 : Int32} (C0 : gm_C p s m args meth c (dC, dI) [(cI, .int)] A gm_T RX11 cX11_ask 5 (some .int) wsX11_ask) {N : Nat} {out : Int32 × Int32 × (Nat → Int32) × (Nat → Int32)}    {H : Heap} {locs : List Loc} {ls : Array Slot} (h : fX11_ask_b101 N  m_thrown m_refused m_tongue x3 = some out) (hH : gm_H (dC, dI) A s (wX11_ask cI q q_refused q_tongue q_fresh q_kept q_isKept q_text q_said q_talk m_thrown m_size m_at m_start m_token m_value m_faultAt m_allowed m_firstPair m_secondPair m_above m_below m_refused m_tongue) H locs) (hl : lv_has ls 5 [(0, .ref q), (3, .int x3)]) : W p l e rX11_ask s m args below meth c H locs 0 0 (MQ below (gm_Q (dC, dI) [(cI, .int)] A (some (.int out.1)) (wX11_ask cI q q_refused q_tongue q_fresh q_kept q_isKept q_text q_said q_talk out.2.1 m_size m_at m_start m_token m_value m_faultAt m_allowed m_firstPair m_secondPair m_above m_below out.2.2.1 out.2.2.2)) args s 0 0 A) (F0 m 101 ls []) := by
  obtain ⟨hx, hb, hml, hr, hown, hts, hA, hK, hX, hlocks⟩ := id C0
  unfold fX11_ask_b101 at h
  refine lv_aload_n hx hb dX11_ask_101 rfl (lv_at hl 0 rfl) ?_
  refine gm_get (ci := 11) C0 hH inX11_ask_X11 0 2 2 rfl rfl (by decide) rfl rfl dX11_ask_102 ?_
  refine lv_iconst (v := 4) hx hb dX11_ask_105 (by decide) ?_
  refine lv_dup2_11 hx hb dX11_ask_106 rfl rfl ?_
  obtain ⟨hi22, h⟩ := gm_chk_e h
  refine gm_iald C0 hH hi22 2 0 rfl rfl dX11_ask_107 ?_
  refine lv_iconst (v := 1) hx hb dX11_ask_108 (by decide) ?_
  refine lv_isub hx hb dX11_ask_109 ?_
  obtain ⟨hi23, h⟩ := gm_chk_e h
  refine gm_iast C0 hH hi23 2 0 rfl rfl dX11_ask_110 (fun H locs hH => ?_)
  have hH : gm_H (dC, dI) A s (wX11_ask cI q q_refused q_tongue q_fresh q_kept q_isKept q_text q_said q_talk m_thrown m_size m_at m_start m_token m_value m_faultAt m_allowed m_firstPair m_secondPair m_above m_below m_refused (upd m_tongue (Int32.toNatClampNeg 4) (((m_tongue (Int32.toNatClampNeg 4)) - 1)))) H locs := hH
  exact tX11_ask_b111 C0  h hH (lv_sub hl [0, 1] rfl)
set_option maxRecDepth 100000 in
set_option maxHeartbeats 4000000 in
theorem tX11_ask_b66 {p : Program} {l : Launch} {e : Env} {s : State} {m : MethodId} {args : Array Value} {below : List Frame} {meth : Method} {c : Code} {A : Nat → Prop} {dC : Nat → ClassId} {dI : Nat → Nat → Nat} {cI : ClassId} {q q_refused q_tongue q_fresh q_kept q_isKept q_text q_said q_talk : Nat} {m_thrown : Int32} {m_size : Int32} {m_at : Int32} {m_start : Int32} {m_token : Int32} {m_value : Int64} {m_faultAt : Int32} {m_allowed : Int32} {m_firstPair : Int32} {m_secondPair : Int32} {m_above : Int64} {m_below : Int64} {m_refused : Nat → Int32} {x3 : Int32} (C0 : gm_C p s m args meth c (dC, dI) [(cI, .int)] A gm_T RX11 cX11_ask 5 (some .int) wsX11_ask) {N : Nat} {out : Int32 × Int32 × (Nat → Int32) × (Nat → Int32)}   : ∀ (n : Nat), ∀ (m_tongue : Nat → Int32) (x4 : Int32) (H : Heap) (locs : List Loc) (ls : Array Slot), (gm_fix (fX11_ask_b66_body N  m_thrown m_refused x3) (fun _ _ => none) n) m_tongue x4 = some out → gm_H (dC, dI) A s (wX11_ask cI q q_refused q_tongue q_fresh q_kept q_isKept q_text q_said q_talk m_thrown m_size m_at m_start m_token m_value m_faultAt m_allowed m_firstPair m_secondPair m_above m_below m_refused m_tongue) H locs → lv_has ls 5 [(0, .ref q), (3, .int x3), (4, .int x4)] → W p l e rX11_ask s m args below meth c H locs 0 0 (MQ below (gm_Q (dC, dI) [(cI, .int)] A (some (.int out.1)) (wX11_ask cI q q_refused q_tongue q_fresh q_kept q_isKept q_text q_said q_talk out.2.1 m_size m_at m_start m_token m_value m_faultAt m_allowed m_firstPair m_secondPair m_above m_below out.2.2.1 out.2.2.2)) args s 0 0 A) (F0 m 66 ls []) := by
  obtain ⟨hx, hb, hml, hr, hown, hts, hA, hK, hX, hlocks⟩ := id C0
  intro n
  induction n with
  | zero =>
    intro m_tongue x4 H locs ls h hH hl
    cases h
  | succ n hr66 =>
    intro m_tongue x4 H locs ls h hH hl
    rw [gm_fix_s] at h
    unfold fX11_ask_b66_body at h
    refine lv_iload hx hb dX11_ask_66 (lv_at hl 2 rfl) ?_
    refine lv_bipush (v := 7) hx hb dX11_ask_68 (by decide) ?_
    refine lv_icmp_ge (tgt := 101) hx hb dX11_ask_70 (by decide) (fun hc21 => ?_) (fun hc21 => ?_)
    · replace h := gm_pos hc21 h
      exact tX11_ask_b101 C0  h hH (lv_sub hl [0, 1] rfl)
    · replace h := gm_neg hc21 h
      refine lv_aload_n hx hb dX11_ask_73 rfl (lv_at hl 0 rfl) ?_
      refine gm_get (ci := 11) C0 hH inX11_ask_X11 0 2 2 rfl rfl (by decide) rfl rfl dX11_ask_74 ?_
      refine lv_bipush (v := 65) hx hb dX11_ask_77 (by decide) ?_
      refine lv_iload hx hb dX11_ask_79 (lv_at hl 2 rfl) ?_
      refine lv_iadd hx hb dX11_ask_81 ?_
      refine lv_aload_n hx hb dX11_ask_82 rfl (lv_at hl 0 rfl) ?_
      refine gm_get (ci := 11) C0 hH inX11_ask_X11 0 2 2 rfl rfl (by decide) rfl rfl dX11_ask_83 ?_
      refine lv_bipush (v := 65) hx hb dX11_ask_86 (by decide) ?_
      refine lv_iload hx hb dX11_ask_88 (lv_at hl 2 rfl) ?_
      refine lv_iadd hx hb dX11_ask_90 ?_
      refine lv_iconst (v := 1) hx hb dX11_ask_91 (by decide) ?_
      refine lv_iadd hx hb dX11_ask_92 ?_
      obtain ⟨hi24, h⟩ := gm_chk_e h
      refine gm_iald C0 hH hi24 2 0 rfl rfl dX11_ask_93 ?_
      obtain ⟨hi25, h⟩ := gm_chk_e h
      refine gm_iast C0 hH hi25 2 0 rfl rfl dX11_ask_94 (fun H locs hH => ?_)
      have hH : gm_H (dC, dI) A s (wX11_ask cI q q_refused q_tongue q_fresh q_kept q_isKept q_text q_said q_talk m_thrown m_size m_at m_start m_token m_value m_faultAt m_allowed m_firstPair m_secondPair m_above m_below m_refused (upd m_tongue (Int32.toNatClampNeg ((65 + x4))) ((m_tongue (Int32.toNatClampNeg (((65 + x4) + 1))))))) H locs := hH
      refine lv_iinc (v := (x4 + 1)) (lv' := [(4, .int (x4 + 1)), (0, .ref q), (3, .int x3)]) hx hb dX11_ask_95 hl (k := 2) rfl rfl (by decide) rfl (fun ls hl => ?_)
      refine lv_goto (tgt := 66) hx hb dX11_ask_98 (by decide) ?_
      exact hr66 _ _ _ _ _ h hH (lv_sub hl [1, 2, 0] rfl)
set_option maxRecDepth 100000 in
set_option maxHeartbeats 4000000 in
theorem mX11_ask (l : Launch) (dC : Nat → ClassId) (dI : Nat → Nat → Nat) (cI : ClassId) (q q_refused q_tongue q_fresh q_kept q_isKept q_text q_said q_talk : Nat) (m_thrown : Int32) (m_size : Int32) (m_at : Int32) (m_start : Int32) (m_token : Int32) (m_value : Int64) (m_faultAt : Int32) (m_allowed : Int32) (m_firstPair : Int32) (m_secondPair : Int32) (m_above : Int64) (m_below : Int64) (m_refused : Nat → Int32) (m_tongue : Nat → Int32) (x1 : Int32) (x2 : Int32) (x3 : Int32)  {N : Nat} {out : Int32 × Int32 × (Nat → Int32) × (Nat → Int32)} (h : fX11_ask N m_thrown m_refused m_tongue x1 x2 x3 = some out) : gm_Met l yX11_ask wsX11_ask rX11_ask (dC, dI) [(cI, .int)] gm_T [.ref q, .int x1, .int x2, .int x3] (wX11_ask cI q q_refused q_tongue q_fresh q_kept q_isKept q_text q_said q_talk m_thrown m_size m_at m_start m_token m_value m_faultAt m_allowed m_firstPair m_secondPair m_above m_below m_refused m_tongue) (some (.int out.1)) (wX11_ask cI q q_refused q_tongue q_fresh q_kept q_isKept q_text q_said q_talk out.2.1 m_size m_at m_start m_token m_value m_faultAt m_allowed m_firstPair m_secondPair m_above m_below out.2.2.1 out.2.2.2) := by
  refine gm_ofW (cc := cX11_ask) (maxL := 5) (ret := (some .int)) (by decide +kernel) rfl (Nat.le_of_ble_eq_true rfl) ?_
  intro p e s m below meth c A C0 hH ls hl
  generalize ([.ref q, .int x1, .int x2, .int x3] : List Value).toArray = args at C0 ⊢
  have hl : lv_has ls 5 [(0, .ref q), (1, .int x1), (2, .int x2), (3, .int x3)] := hl
  generalize s.heap = H at hH ⊢
  generalize ([] : List Loc) = locs at hH ⊢
  obtain ⟨hx, hb, hml, hr, hown, hts, hA, hK, hX, hlocks⟩ := id C0
  unfold fX11_ask at h
  refine lv_aload_n hx hb dX11_ask_0 rfl (lv_at hl 0 rfl) ?_
  refine lv_iconst (v := 0) hx hb dX11_ask_1 (by decide) ?_
  refine gm_putf (ci := 11) C0 hH inX11_ask_X11 tyX11_ok nmX11 0 0 1 rfl rfl (by decide) rfl rfl rfl rfl rfl (Nat.le_of_ble_eq_true rfl) dX11_ask_2 (fun H locs hH => ?_)
  have hH : gm_H (dC, dI) A s (wX11_ask cI q q_refused q_tongue q_fresh q_kept q_isKept q_text q_said q_talk 0 m_size m_at m_start m_token m_value m_faultAt m_allowed m_firstPair m_secondPair m_above m_below m_refused m_tongue) H locs := hH
  refine lv_aload_n hx hb dX11_ask_5 rfl (lv_at hl 0 rfl) ?_
  refine lv_iload_n hx hb dX11_ask_6 rfl (lv_at hl 1 rfl) ?_
  obtain ⟨o1, ho1, h⟩ := gm_bind_e h
  refine gm_callV (As := [.int x1]) (rest := []) (n := 1) (ci := 11) (q0 := 0) C0 hH (mX11_noPerson l dC dI cI q q_tongue q_refused q_fresh q_kept q_isKept q_text q_said q_talk 0 m_size m_at m_start m_token m_value m_faultAt m_allowed m_firstPair m_secondPair m_above m_below m_tongue x1   ho1) gX11_ask_X11_noPerson rfl (by decide +kernel) ⟨rfl, rfl, Nat.le_of_ble_eq_true rfl, Nat.le_of_ble_eq_true rfl⟩ gm_T_ok (fun _ => trivial) [0, 2] rfl rfl rfl [0] rfl rfl rfl rfl hl.1 rfl (Nat.le_of_ble_eq_true rfl) dX11_ask_7 ⟨Nat.zero_le _, Nat.zero_le _⟩ (fun H locs hH => ?_)
  have hH : gm_H (dC, dI) A s (wX11_ask cI q q_refused q_tongue q_fresh q_kept q_isKept q_text q_said q_talk 0 m_size m_at m_start m_token m_value m_faultAt m_allowed m_firstPair m_secondPair m_above m_below m_refused m_tongue) H locs := hH
  refine lv_if_ne (tgt := 29) hx hb dX11_ask_10 (by decide) (fun hc2 => ?_) (fun hc2 => ?_)
  · replace h := gm_neg hc2 h
    exact tX11_ask_b29 C0  h hH (lv_sub hl [0] rfl)
  · replace h := gm_pos hc2 h
    refine lv_aload_n hx hb dX11_ask_13 rfl (lv_at hl 0 rfl) ?_
    refine lv_iload_n hx hb dX11_ask_14 rfl (lv_at hl 2 rfl) ?_
    obtain ⟨o4, ho4, h⟩ := gm_bind_e h
    refine gm_callV (As := [.int x2]) (rest := []) (n := 1) (ci := 11) (q0 := 0) C0 hH (mX11_noWord l dC dI cI q q_tongue q_refused q_fresh q_kept q_isKept q_text q_said q_talk 0 m_size m_at m_start m_token m_value m_faultAt m_allowed m_firstPair m_secondPair m_above m_below m_tongue x2   ho4) gX11_ask_X11_noWord rfl (by decide +kernel) ⟨rfl, rfl, Nat.le_of_ble_eq_true rfl, Nat.le_of_ble_eq_true rfl⟩ gm_T_ok (fun _ => trivial) [0, 2] rfl rfl rfl [0] rfl rfl rfl rfl hl.1 rfl (Nat.le_of_ble_eq_true rfl) dX11_ask_15 ⟨Nat.zero_le _, Nat.zero_le _⟩ (fun H locs hH => ?_)
    have hH : gm_H (dC, dI) A s (wX11_ask cI q q_refused q_tongue q_fresh q_kept q_isKept q_text q_said q_talk 0 m_size m_at m_start m_token m_value m_faultAt m_allowed m_firstPair m_secondPair m_above m_below m_refused m_tongue) H locs := hH
    refine lv_if_ne (tgt := 29) hx hb dX11_ask_18 (by decide) (fun hc5 => ?_) (fun hc5 => ?_)
    · replace h := gm_neg hc5 h
      exact tX11_ask_b29 C0  h hH (lv_sub hl [0] rfl)
    · replace h := gm_pos hc5 h
      refine lv_aload_n hx hb dX11_ask_21 rfl (lv_at hl 0 rfl) ?_
      refine lv_iload_n hx hb dX11_ask_22 rfl (lv_at hl 3 rfl) ?_
      obtain ⟨o6, ho6, h⟩ := gm_bind_e h
      refine gm_callV (As := [.int x3]) (rest := []) (n := 1) (ci := 11) (q0 := 0) C0 hH (mX11_noWord l dC dI cI q q_tongue q_refused q_fresh q_kept q_isKept q_text q_said q_talk 0 m_size m_at m_start m_token m_value m_faultAt m_allowed m_firstPair m_secondPair m_above m_below m_tongue x3   ho6) gX11_ask_X11_noWord rfl (by decide +kernel) ⟨rfl, rfl, Nat.le_of_ble_eq_true rfl, Nat.le_of_ble_eq_true rfl⟩ gm_T_ok (fun _ => trivial) [0, 2] rfl rfl rfl [0] rfl rfl rfl rfl hl.1 rfl (Nat.le_of_ble_eq_true rfl) dX11_ask_23 ⟨Nat.zero_le _, Nat.zero_le _⟩ (fun H locs hH => ?_)
      have hH : gm_H (dC, dI) A s (wX11_ask cI q q_refused q_tongue q_fresh q_kept q_isKept q_text q_said q_talk 0 m_size m_at m_start m_token m_value m_faultAt m_allowed m_firstPair m_secondPair m_above m_below m_refused m_tongue) H locs := hH
      refine lv_if_eq (tgt := 34) hx hb dX11_ask_26 (by decide) (fun hc7 => ?_) (fun hc7 => ?_)
      · replace h := gm_pos hc7 h
        refine lv_aload_n hx hb dX11_ask_34 rfl (lv_at hl 0 rfl) ?_
        refine lv_iload_n hx hb dX11_ask_35 rfl (lv_at hl 1 rfl) ?_
        refine lv_iload_n hx hb dX11_ask_36 rfl (lv_at hl 2 rfl) ?_
        obtain ⟨o8, ho8, h⟩ := gm_bind_e h
        refine gm_callV (As := [.int x1, .int x2]) (rest := []) (n := 2) (ci := 11) (q0 := 0) C0 hH (mX11_answersTo l dC dI cI q q_tongue q_refused q_fresh q_kept q_isKept q_text q_said q_talk 0 m_size m_at m_start m_token m_value m_faultAt m_allowed m_firstPair m_secondPair m_above m_below m_tongue x1 x2   ho8) gX11_ask_X11_answersTo rfl (by decide +kernel) ⟨rfl, rfl, Nat.le_of_ble_eq_true rfl, Nat.le_of_ble_eq_true rfl⟩ gm_T_ok (fun _ => trivial) [0, 2] rfl rfl rfl [0] rfl rfl rfl rfl hl.1 rfl (Nat.le_of_ble_eq_true rfl) dX11_ask_37 ⟨Nat.zero_le _, Nat.zero_le _⟩ (fun H locs hH => ?_)
        have hH : gm_H (dC, dI) A s (wX11_ask cI q q_refused q_tongue q_fresh q_kept q_isKept q_text q_said q_talk 0 m_size m_at m_start m_token m_value m_faultAt m_allowed m_firstPair m_secondPair m_above m_below m_refused m_tongue) H locs := hH
        refine lv_iload_n hx hb dX11_ask_40 rfl (lv_at hl 3 rfl) ?_
        obtain ⟨o9, ho9, h⟩ := gm_bind_e h
        refine gm_callS (As := [.int o8, .int x3]) (rest := []) (n := 2) C0 hH (mX11_has l dC dI    o8 x3   ho9) gX11_ask_X11_has rfl (by decide +kernel) ⟨rfl, rfl, Nat.le_of_ble_eq_true rfl, Nat.le_of_ble_eq_true rfl⟩ gm_T_ok (fun _ => trivial) [] rfl rfl rfl [] rfl rfl hl.1 rfl (Nat.le_of_ble_eq_true rfl) dX11_ask_41 ⟨Nat.zero_le _, Nat.zero_le _⟩ (fun H locs hH => ?_)
        have hH : gm_H (dC, dI) A s (wX11_ask cI q q_refused q_tongue q_fresh q_kept q_isKept q_text q_said q_talk 0 m_size m_at m_start m_token m_value m_faultAt m_allowed m_firstPair m_secondPair m_above m_below m_refused m_tongue) H locs := hH
        refine lv_if_ne (tgt := 52) hx hb dX11_ask_44 (by decide) (fun hc10 => ?_) (fun hc10 => ?_)
        · replace h := gm_neg hc10 h
          refine lv_aload_n hx hb dX11_ask_52 rfl (lv_at hl 0 rfl) ?_
          refine gm_get (ci := 11) C0 hH inX11_ask_X11 0 2 2 rfl rfl (by decide) rfl rfl dX11_ask_53 ?_
          refine lv_iconst (v := 4) hx hb dX11_ask_56 (by decide) ?_
          obtain ⟨hi11, h⟩ := gm_chk_e h
          refine gm_iald C0 hH hi11 2 0 rfl rfl dX11_ask_57 ?_
          refine lv_bipush (v := 8) hx hb dX11_ask_58 (by decide) ?_
          refine lv_icmp_ne (tgt := 111) hx hb dX11_ask_60 (by decide) (fun hc12 => ?_) (fun hc12 => ?_)
          · replace h := gm_neg hc12 h
            exact tX11_ask_b111 C0  h hH (lv_sub hl [0, 3] rfl)
          · replace h := gm_pos hc12 h
            refine lv_iconst (v := 0) hx hb dX11_ask_63 (by decide) ?_
            refine lv_istore (lv' := [(4, .int 0), (0, .ref q), (1, .int x1), (2, .int x2), (3, .int x3)]) hx hb dX11_ask_64 hl (by decide) rfl (fun ls hl => ?_)
            unfold fX11_ask_b66 at h
            exact tX11_ask_b66 C0  _ _ _ _ _ _ h hH (lv_sub hl [1, 4, 0] rfl)
        · replace h := gm_pos hc10 h
          refine lv_aload_n hx hb dX11_ask_47 rfl (lv_at hl 0 rfl) ?_
          obtain ⟨o26, ho26, h⟩ := gm_bind_e h
          refine gm_callV (As := []) (rest := []) (n := 0) (ci := 11) (q0 := 0) C0 hH (mX11_no l dC dI cI q q_refused q_tongue q_fresh q_kept q_isKept q_text q_said q_talk 0 m_size m_at m_start m_token m_value m_faultAt m_allowed m_firstPair m_secondPair m_above m_below m_refused    ho26) gX11_ask_X11_no rfl (by decide +kernel) ⟨rfl, rfl, Nat.le_of_ble_eq_true rfl, Nat.le_of_ble_eq_true rfl⟩ gm_T_ok (fun _ => trivial) [0, 1] rfl rfl rfl [0] rfl rfl rfl rfl hl.1 rfl (Nat.le_of_ble_eq_true rfl) dX11_ask_48 ⟨Nat.zero_le _, Nat.zero_le _⟩ (fun H locs hH => ?_)
          have hH : gm_H (dC, dI) A s (wX11_ask cI q q_refused q_tongue q_fresh q_kept q_isKept q_text q_said q_talk 0 m_size m_at m_start m_token m_value m_faultAt m_allowed m_firstPair m_secondPair m_above m_below o26.2 m_tongue) H locs := hH
          obtain rfl := Option.some.inj h
          exact gm_iret C0 hH dX11_ask_51
      · replace h := gm_neg hc7 h
        exact tX11_ask_b29 C0  h hH (lv_sub hl [0] rfl)

/-! X11_rest -/
abbrev wX11_rest (cI : ClassId) (q q_tongue q_refused q_fresh q_kept q_isKept q_text q_said q_talk : Nat) (m_thrown : Int32) (m_size : Int32) (m_at : Int32) (m_start : Int32) (m_token : Int32) (m_value : Int64) (m_faultAt : Int32) (m_allowed : Int32) (m_firstPair : Int32) (m_secondPair : Int32) (m_above : Int64) (m_below : Int64) (m_tongue : Nat → Int32) : va_W := [(q, .inr (11, [.int m_thrown, .ref q_refused, .ref q_tongue, .ref q_fresh, .ref q_kept, .ref q_isKept, .ref q_text, .int m_size, .int m_at, .int m_start, .int m_token, .long m_value, .int m_faultAt, .ref q_said, .ref q_talk, .int m_allowed, .int m_firstPair, .int m_secondPair, .long m_above, .long m_below])), (q_tongue, .inl (cI, 73, .inl m_tongue))]
abbrev rX11_rest : Room := { frames := 1, cells := 0, slots := 0, locals := 22 }
def fX11_rest (N : Nat) (m_thrown : Int32) (m_tongue : Nat → Int32)  : Option (Int32 × Int32 × (Nat → Int32)) := gm_chk 2 73 (gm_bind (fX11_bits N ((m_tongue (Int32.toNatClampNeg 2)))) (fun o2 => gm_chk 2 73 (gm_chk 4 73 (some (o2, 0, upd (upd m_tongue (Int32.toNatClampNeg 2) 0) (Int32.toNatClampNeg 4) 0)))))
set_option maxRecDepth 20000 in
theorem inX11_rest_X11 : ∀ w ∈ u_ws RX11 TX11 20, w ∈ wsX11_rest := fun w h => by
  obtain ⟨k, hk, rfl⟩ := List.mem_map.mp h
  have hk2 := List.mem_range.mp hk
  exact List.mem_of_getElem? (i := 7 + k) (by rcases (show k = 0 ∨ k = 1 ∨ k = 2 ∨ k = 3 ∨ k = 4 ∨ k = 5 ∨ k = 6 ∨ k = 7 ∨ k = 8 ∨ k = 9 ∨ k = 10 ∨ k = 11 ∨ k = 12 ∨ k = 13 ∨ k = 14 ∨ k = 15 ∨ k = 16 ∨ k = 17 ∨ k = 18 ∨ k = 19 by omega) with rfl | rfl | rfl | rfl | rfl | rfl | rfl | rfl | rfl | rfl | rfl | rfl | rfl | rfl | rfl | rfl | rfl | rfl | rfl | rfl <;> rfl)
set_option maxRecDepth 100000 in
set_option maxHeartbeats 4000000 in
theorem mX11_rest (l : Launch) (dC : Nat → ClassId) (dI : Nat → Nat → Nat) (cI : ClassId) (q q_tongue q_refused q_fresh q_kept q_isKept q_text q_said q_talk : Nat) (m_thrown : Int32) (m_size : Int32) (m_at : Int32) (m_start : Int32) (m_token : Int32) (m_value : Int64) (m_faultAt : Int32) (m_allowed : Int32) (m_firstPair : Int32) (m_secondPair : Int32) (m_above : Int64) (m_below : Int64) (m_tongue : Nat → Int32)   {N : Nat} {out : Int32 × Int32 × (Nat → Int32)} (h : fX11_rest N m_thrown m_tongue = some out) : gm_Met l yX11_rest wsX11_rest rX11_rest (dC, dI) [(cI, .int)] gm_T [.ref q] (wX11_rest cI q q_tongue q_refused q_fresh q_kept q_isKept q_text q_said q_talk m_thrown m_size m_at m_start m_token m_value m_faultAt m_allowed m_firstPair m_secondPair m_above m_below m_tongue) (some (.int out.1)) (wX11_rest cI q q_tongue q_refused q_fresh q_kept q_isKept q_text q_said q_talk out.2.1 m_size m_at m_start m_token m_value m_faultAt m_allowed m_firstPair m_secondPair m_above m_below out.2.2) := by
  refine gm_ofW (cc := cX11_rest) (maxL := 2) (ret := (some .int)) (by decide +kernel) rfl (Nat.le_of_ble_eq_true rfl) ?_
  intro p e s m below meth c A C0 hH ls hl
  generalize ([.ref q] : List Value).toArray = args at C0 ⊢
  have hl : lv_has ls 2 [(0, .ref q)] := hl
  generalize s.heap = H at hH ⊢
  generalize ([] : List Loc) = locs at hH ⊢
  obtain ⟨hx, hb, hml, hr, hown, hts, hA, hK, hX, hlocks⟩ := id C0
  unfold fX11_rest at h
  refine lv_aload_n hx hb dX11_rest_0 rfl (lv_at hl 0 rfl) ?_
  refine lv_iconst (v := 0) hx hb dX11_rest_1 (by decide) ?_
  refine gm_putf (ci := 11) C0 hH inX11_rest_X11 tyX11_ok nmX11 0 0 1 rfl rfl (by decide) rfl rfl rfl rfl rfl (Nat.le_of_ble_eq_true rfl) dX11_rest_2 (fun H locs hH => ?_)
  have hH : gm_H (dC, dI) A s (wX11_rest cI q q_tongue q_refused q_fresh q_kept q_isKept q_text q_said q_talk 0 m_size m_at m_start m_token m_value m_faultAt m_allowed m_firstPair m_secondPair m_above m_below m_tongue) H locs := hH
  refine lv_aload_n hx hb dX11_rest_5 rfl (lv_at hl 0 rfl) ?_
  refine gm_get (ci := 11) C0 hH inX11_rest_X11 0 2 2 rfl rfl (by decide) rfl rfl dX11_rest_6 ?_
  refine lv_iconst (v := 2) hx hb dX11_rest_9 (by decide) ?_
  obtain ⟨hi1, h⟩ := gm_chk_e h
  refine gm_iald C0 hH hi1 1 0 rfl rfl dX11_rest_10 ?_
  obtain ⟨o2, ho2, h⟩ := gm_bind_e h
  refine gm_callS (As := [.int (m_tongue (Int32.toNatClampNeg 2))]) (rest := []) (n := 1) C0 hH (mX11_bits l dC dI    ((m_tongue (Int32.toNatClampNeg 2)))   ho2) gX11_rest_X11_bits rfl (by decide +kernel) ⟨rfl, rfl, Nat.le_of_ble_eq_true rfl, Nat.le_of_ble_eq_true rfl⟩ gm_T_ok (fun _ => trivial) [] rfl rfl rfl [] rfl rfl hl.1 rfl (Nat.le_of_ble_eq_true rfl) dX11_rest_11 ⟨Nat.zero_le _, Nat.zero_le _⟩ (fun H locs hH => ?_)
  have hH : gm_H (dC, dI) A s (wX11_rest cI q q_tongue q_refused q_fresh q_kept q_isKept q_text q_said q_talk 0 m_size m_at m_start m_token m_value m_faultAt m_allowed m_firstPair m_secondPair m_above m_below m_tongue) H locs := hH
  refine lv_istore_n (lv' := [(1, .int o2), (0, .ref q)]) hx hb dX11_rest_14 rfl hl (by decide) rfl (fun ls hl => ?_)
  refine lv_aload_n hx hb dX11_rest_15 rfl (lv_at hl 1 rfl) ?_
  refine gm_get (ci := 11) C0 hH inX11_rest_X11 0 2 2 rfl rfl (by decide) rfl rfl dX11_rest_16 ?_
  refine lv_iconst (v := 2) hx hb dX11_rest_19 (by decide) ?_
  refine lv_iconst (v := 0) hx hb dX11_rest_20 (by decide) ?_
  obtain ⟨hi3, h⟩ := gm_chk_e h
  refine gm_iast C0 hH hi3 1 0 rfl rfl dX11_rest_21 (fun H locs hH => ?_)
  have hH : gm_H (dC, dI) A s (wX11_rest cI q q_tongue q_refused q_fresh q_kept q_isKept q_text q_said q_talk 0 m_size m_at m_start m_token m_value m_faultAt m_allowed m_firstPair m_secondPair m_above m_below (upd m_tongue (Int32.toNatClampNeg 2) 0)) H locs := hH
  refine lv_aload_n hx hb dX11_rest_22 rfl (lv_at hl 1 rfl) ?_
  refine gm_get (ci := 11) C0 hH inX11_rest_X11 0 2 2 rfl rfl (by decide) rfl rfl dX11_rest_23 ?_
  refine lv_iconst (v := 4) hx hb dX11_rest_26 (by decide) ?_
  refine lv_iconst (v := 0) hx hb dX11_rest_27 (by decide) ?_
  obtain ⟨hi4, h⟩ := gm_chk_e h
  refine gm_iast C0 hH hi4 1 0 rfl rfl dX11_rest_28 (fun H locs hH => ?_)
  have hH : gm_H (dC, dI) A s (wX11_rest cI q q_tongue q_refused q_fresh q_kept q_isKept q_text q_said q_talk 0 m_size m_at m_start m_token m_value m_faultAt m_allowed m_firstPair m_secondPair m_above m_below (upd (upd m_tongue (Int32.toNatClampNeg 2) 0) (Int32.toNatClampNeg 4) 0)) H locs := hH
  refine lv_iload_n hx hb dX11_rest_29 rfl (lv_at hl 0 rfl) ?_
  obtain rfl := Option.some.inj h
  exact gm_iret C0 hH dX11_rest_30

/-! X11_undo -/
abbrev wX11_undo (cI : ClassId) (q q_refused q_tongue q_fresh q_kept q_isKept q_text q_said q_talk : Nat) (m_thrown : Int32) (m_size : Int32) (m_at : Int32) (m_start : Int32) (m_token : Int32) (m_value : Int64) (m_faultAt : Int32) (m_allowed : Int32) (m_firstPair : Int32) (m_secondPair : Int32) (m_above : Int64) (m_below : Int64) (m_refused : Nat → Int32) (m_tongue : Nat → Int32) : va_W := [(q, .inr (11, [.int m_thrown, .ref q_refused, .ref q_tongue, .ref q_fresh, .ref q_kept, .ref q_isKept, .ref q_text, .int m_size, .int m_at, .int m_start, .int m_token, .long m_value, .int m_faultAt, .ref q_said, .ref q_talk, .int m_allowed, .int m_firstPair, .int m_secondPair, .long m_above, .long m_below])), (q_refused, .inl (cI, 3, .inl m_refused)), (q_tongue, .inl (cI, 73, .inl m_tongue))]
abbrev rX11_undo : Room := { frames := 2, cells := 0, slots := 0, locals := 42 }
def fX11_undo (N : Nat) (m_thrown : Int32) (m_refused : Nat → Int32) (m_tongue : Nat → Int32)  : Option (Int32 × Int32 × (Nat → Int32) × (Nat → Int32)) := gm_chk 4 73 ((if (m_tongue (Int32.toNatClampNeg 4)) = 0 then gm_bind (fX11_no N m_refused) (fun o10 => some (o10.1, 0, o10.2, m_tongue)) else gm_chk 4 73 (gm_chk 4 73 (gm_chk 4 73 (gm_chk ((65 + ((upd m_tongue (Int32.toNatClampNeg 4) (((m_tongue (Int32.toNatClampNeg 4)) - 1))) (Int32.toNatClampNeg 4)))) 73 (gm_chk 2 73 (gm_chk 2 73 (gm_bind (fX11_bits N (((upd (upd m_tongue (Int32.toNatClampNeg 4) (((m_tongue (Int32.toNatClampNeg 4)) - 1))) (Int32.toNatClampNeg 2) (((upd m_tongue (Int32.toNatClampNeg 4) (((m_tongue (Int32.toNatClampNeg 4)) - 1))) (Int32.toNatClampNeg ((65 + ((upd m_tongue (Int32.toNatClampNeg 4) (((m_tongue (Int32.toNatClampNeg 4)) - 1))) (Int32.toNatClampNeg 4)))))))) (Int32.toNatClampNeg 2)))) (fun o9 => some (o9, 0, m_refused, upd (upd m_tongue (Int32.toNatClampNeg 4) (((m_tongue (Int32.toNatClampNeg 4)) - 1))) (Int32.toNatClampNeg 2) (((upd m_tongue (Int32.toNatClampNeg 4) (((m_tongue (Int32.toNatClampNeg 4)) - 1))) (Int32.toNatClampNeg ((65 + ((upd m_tongue (Int32.toNatClampNeg 4) (((m_tongue (Int32.toNatClampNeg 4)) - 1))) (Int32.toNatClampNeg 4)))))))))))))))))
set_option maxRecDepth 20000 in
theorem inX11_undo_X11 : ∀ w ∈ u_ws RX11 TX11 20, w ∈ wsX11_undo := fun w h => by
  obtain ⟨k, hk, rfl⟩ := List.mem_map.mp h
  have hk2 := List.mem_range.mp hk
  exact List.mem_of_getElem? (i := 16 + k) (by rcases (show k = 0 ∨ k = 1 ∨ k = 2 ∨ k = 3 ∨ k = 4 ∨ k = 5 ∨ k = 6 ∨ k = 7 ∨ k = 8 ∨ k = 9 ∨ k = 10 ∨ k = 11 ∨ k = 12 ∨ k = 13 ∨ k = 14 ∨ k = 15 ∨ k = 16 ∨ k = 17 ∨ k = 18 ∨ k = 19 by omega) with rfl | rfl | rfl | rfl | rfl | rfl | rfl | rfl | rfl | rfl | rfl | rfl | rfl | rfl | rfl | rfl | rfl | rfl | rfl | rfl <;> rfl)
set_option maxRecDepth 100000 in
set_option maxHeartbeats 4000000 in
theorem mX11_undo (l : Launch) (dC : Nat → ClassId) (dI : Nat → Nat → Nat) (cI : ClassId) (q q_refused q_tongue q_fresh q_kept q_isKept q_text q_said q_talk : Nat) (m_thrown : Int32) (m_size : Int32) (m_at : Int32) (m_start : Int32) (m_token : Int32) (m_value : Int64) (m_faultAt : Int32) (m_allowed : Int32) (m_firstPair : Int32) (m_secondPair : Int32) (m_above : Int64) (m_below : Int64) (m_refused : Nat → Int32) (m_tongue : Nat → Int32)   {N : Nat} {out : Int32 × Int32 × (Nat → Int32) × (Nat → Int32)} (h : fX11_undo N m_thrown m_refused m_tongue = some out) : gm_Met l yX11_undo wsX11_undo rX11_undo (dC, dI) [(cI, .int)] gm_T [.ref q] (wX11_undo cI q q_refused q_tongue q_fresh q_kept q_isKept q_text q_said q_talk m_thrown m_size m_at m_start m_token m_value m_faultAt m_allowed m_firstPair m_secondPair m_above m_below m_refused m_tongue) (some (.int out.1)) (wX11_undo cI q q_refused q_tongue q_fresh q_kept q_isKept q_text q_said q_talk out.2.1 m_size m_at m_start m_token m_value m_faultAt m_allowed m_firstPair m_secondPair m_above m_below out.2.2.1 out.2.2.2) := by
  refine gm_ofW (cc := cX11_undo) (maxL := 1) (ret := (some .int)) (by decide +kernel) rfl (Nat.le_of_ble_eq_true rfl) ?_
  intro p e s m below meth c A C0 hH ls hl
  generalize ([.ref q] : List Value).toArray = args at C0 ⊢
  have hl : lv_has ls 1 [(0, .ref q)] := hl
  generalize s.heap = H at hH ⊢
  generalize ([] : List Loc) = locs at hH ⊢
  obtain ⟨hx, hb, hml, hr, hown, hts, hA, hK, hX, hlocks⟩ := id C0
  unfold fX11_undo at h
  refine lv_aload_n hx hb dX11_undo_0 rfl (lv_at hl 0 rfl) ?_
  refine lv_iconst (v := 0) hx hb dX11_undo_1 (by decide) ?_
  refine gm_putf (ci := 11) C0 hH inX11_undo_X11 tyX11_ok nmX11 0 0 1 rfl rfl (by decide) rfl rfl rfl rfl rfl (Nat.le_of_ble_eq_true rfl) dX11_undo_2 (fun H locs hH => ?_)
  have hH : gm_H (dC, dI) A s (wX11_undo cI q q_refused q_tongue q_fresh q_kept q_isKept q_text q_said q_talk 0 m_size m_at m_start m_token m_value m_faultAt m_allowed m_firstPair m_secondPair m_above m_below m_refused m_tongue) H locs := hH
  refine lv_aload_n hx hb dX11_undo_5 rfl (lv_at hl 0 rfl) ?_
  refine gm_get (ci := 11) C0 hH inX11_undo_X11 0 2 2 rfl rfl (by decide) rfl rfl dX11_undo_6 ?_
  refine lv_iconst (v := 4) hx hb dX11_undo_9 (by decide) ?_
  obtain ⟨hi1, h⟩ := gm_chk_e h
  refine gm_iald C0 hH hi1 2 0 rfl rfl dX11_undo_10 ?_
  refine lv_if_ne (tgt := 19) hx hb dX11_undo_11 (by decide) (fun hc2 => ?_) (fun hc2 => ?_)
  · replace h := gm_neg hc2 h
    refine lv_aload_n hx hb dX11_undo_19 rfl (lv_at hl 0 rfl) ?_
    refine gm_get (ci := 11) C0 hH inX11_undo_X11 0 2 2 rfl rfl (by decide) rfl rfl dX11_undo_20 ?_
    refine lv_iconst (v := 4) hx hb dX11_undo_23 (by decide) ?_
    refine lv_dup2_11 hx hb dX11_undo_24 rfl rfl ?_
    obtain ⟨hi3, h⟩ := gm_chk_e h
    refine gm_iald C0 hH hi3 2 0 rfl rfl dX11_undo_25 ?_
    refine lv_iconst (v := 1) hx hb dX11_undo_26 (by decide) ?_
    refine lv_isub hx hb dX11_undo_27 ?_
    obtain ⟨hi4, h⟩ := gm_chk_e h
    refine gm_iast C0 hH hi4 2 0 rfl rfl dX11_undo_28 (fun H locs hH => ?_)
    have hH : gm_H (dC, dI) A s (wX11_undo cI q q_refused q_tongue q_fresh q_kept q_isKept q_text q_said q_talk 0 m_size m_at m_start m_token m_value m_faultAt m_allowed m_firstPair m_secondPair m_above m_below m_refused (upd m_tongue (Int32.toNatClampNeg 4) (((m_tongue (Int32.toNatClampNeg 4)) - 1)))) H locs := hH
    refine lv_aload_n hx hb dX11_undo_29 rfl (lv_at hl 0 rfl) ?_
    refine gm_get (ci := 11) C0 hH inX11_undo_X11 0 2 2 rfl rfl (by decide) rfl rfl dX11_undo_30 ?_
    refine lv_iconst (v := 2) hx hb dX11_undo_33 (by decide) ?_
    refine lv_aload_n hx hb dX11_undo_34 rfl (lv_at hl 0 rfl) ?_
    refine gm_get (ci := 11) C0 hH inX11_undo_X11 0 2 2 rfl rfl (by decide) rfl rfl dX11_undo_35 ?_
    refine lv_bipush (v := 65) hx hb dX11_undo_38 (by decide) ?_
    refine lv_aload_n hx hb dX11_undo_40 rfl (lv_at hl 0 rfl) ?_
    refine gm_get (ci := 11) C0 hH inX11_undo_X11 0 2 2 rfl rfl (by decide) rfl rfl dX11_undo_41 ?_
    refine lv_iconst (v := 4) hx hb dX11_undo_44 (by decide) ?_
    obtain ⟨hi5, h⟩ := gm_chk_e h
    refine gm_iald C0 hH hi5 2 0 rfl rfl dX11_undo_45 ?_
    refine lv_iadd hx hb dX11_undo_46 ?_
    obtain ⟨hi6, h⟩ := gm_chk_e h
    refine gm_iald C0 hH hi6 2 0 rfl rfl dX11_undo_47 ?_
    obtain ⟨hi7, h⟩ := gm_chk_e h
    refine gm_iast C0 hH hi7 2 0 rfl rfl dX11_undo_48 (fun H locs hH => ?_)
    have hH : gm_H (dC, dI) A s (wX11_undo cI q q_refused q_tongue q_fresh q_kept q_isKept q_text q_said q_talk 0 m_size m_at m_start m_token m_value m_faultAt m_allowed m_firstPair m_secondPair m_above m_below m_refused (upd (upd m_tongue (Int32.toNatClampNeg 4) (((m_tongue (Int32.toNatClampNeg 4)) - 1))) (Int32.toNatClampNeg 2) (((upd m_tongue (Int32.toNatClampNeg 4) (((m_tongue (Int32.toNatClampNeg 4)) - 1))) (Int32.toNatClampNeg ((65 + ((upd m_tongue (Int32.toNatClampNeg 4) (((m_tongue (Int32.toNatClampNeg 4)) - 1))) (Int32.toNatClampNeg 4))))))))) H locs := hH
    refine lv_aload_n hx hb dX11_undo_49 rfl (lv_at hl 0 rfl) ?_
    refine gm_get (ci := 11) C0 hH inX11_undo_X11 0 2 2 rfl rfl (by decide) rfl rfl dX11_undo_50 ?_
    refine lv_iconst (v := 2) hx hb dX11_undo_53 (by decide) ?_
    obtain ⟨hi8, h⟩ := gm_chk_e h
    refine gm_iald C0 hH hi8 2 0 rfl rfl dX11_undo_54 ?_
    obtain ⟨o9, ho9, h⟩ := gm_bind_e h
    refine gm_callS (As := [.int ((upd (upd m_tongue (Int32.toNatClampNeg 4) (((m_tongue (Int32.toNatClampNeg 4)) - 1))) (Int32.toNatClampNeg 2) (((upd m_tongue (Int32.toNatClampNeg 4) (((m_tongue (Int32.toNatClampNeg 4)) - 1))) (Int32.toNatClampNeg ((65 + ((upd m_tongue (Int32.toNatClampNeg 4) (((m_tongue (Int32.toNatClampNeg 4)) - 1))) (Int32.toNatClampNeg 4)))))))) (Int32.toNatClampNeg 2))]) (rest := []) (n := 1) C0 hH (mX11_bits l dC dI    (((upd (upd m_tongue (Int32.toNatClampNeg 4) (((m_tongue (Int32.toNatClampNeg 4)) - 1))) (Int32.toNatClampNeg 2) (((upd m_tongue (Int32.toNatClampNeg 4) (((m_tongue (Int32.toNatClampNeg 4)) - 1))) (Int32.toNatClampNeg ((65 + ((upd m_tongue (Int32.toNatClampNeg 4) (((m_tongue (Int32.toNatClampNeg 4)) - 1))) (Int32.toNatClampNeg 4)))))))) (Int32.toNatClampNeg 2)))   ho9) gX11_undo_X11_bits rfl (by decide +kernel) ⟨rfl, rfl, Nat.le_of_ble_eq_true rfl, Nat.le_of_ble_eq_true rfl⟩ gm_T_ok (fun _ => trivial) [] rfl rfl rfl [] rfl rfl hl.1 rfl (Nat.le_of_ble_eq_true rfl) dX11_undo_55 ⟨Nat.zero_le _, Nat.zero_le _⟩ (fun H locs hH => ?_)
    have hH : gm_H (dC, dI) A s (wX11_undo cI q q_refused q_tongue q_fresh q_kept q_isKept q_text q_said q_talk 0 m_size m_at m_start m_token m_value m_faultAt m_allowed m_firstPair m_secondPair m_above m_below m_refused (upd (upd m_tongue (Int32.toNatClampNeg 4) (((m_tongue (Int32.toNatClampNeg 4)) - 1))) (Int32.toNatClampNeg 2) (((upd m_tongue (Int32.toNatClampNeg 4) (((m_tongue (Int32.toNatClampNeg 4)) - 1))) (Int32.toNatClampNeg ((65 + ((upd m_tongue (Int32.toNatClampNeg 4) (((m_tongue (Int32.toNatClampNeg 4)) - 1))) (Int32.toNatClampNeg 4))))))))) H locs := hH
    obtain rfl := Option.some.inj h
    exact gm_iret C0 hH dX11_undo_58
  · replace h := gm_pos hc2 h
    refine lv_aload_n hx hb dX11_undo_14 rfl (lv_at hl 0 rfl) ?_
    obtain ⟨o10, ho10, h⟩ := gm_bind_e h
    refine gm_callV (As := []) (rest := []) (n := 0) (ci := 11) (q0 := 0) C0 hH (mX11_no l dC dI cI q q_refused q_tongue q_fresh q_kept q_isKept q_text q_said q_talk 0 m_size m_at m_start m_token m_value m_faultAt m_allowed m_firstPair m_secondPair m_above m_below m_refused    ho10) gX11_undo_X11_no rfl (by decide +kernel) ⟨rfl, rfl, Nat.le_of_ble_eq_true rfl, Nat.le_of_ble_eq_true rfl⟩ gm_T_ok (fun _ => trivial) [0, 1] rfl rfl rfl [0] rfl rfl rfl rfl hl.1 rfl (Nat.le_of_ble_eq_true rfl) dX11_undo_15 ⟨Nat.zero_le _, Nat.zero_le _⟩ (fun H locs hH => ?_)
    have hH : gm_H (dC, dI) A s (wX11_undo cI q q_refused q_tongue q_fresh q_kept q_isKept q_text q_said q_talk 0 m_size m_at m_start m_token m_value m_faultAt m_allowed m_firstPair m_secondPair m_above m_below o10.2 m_tongue) H locs := hH
    obtain rfl := Option.some.inj h
    exact gm_iret C0 hH dX11_undo_18

/-! X11_of -/
abbrev wX11_of (cI : ClassId) (q q_refused q_tongue q_fresh q_kept q_isKept q_text q_said q_talk : Nat) (m_thrown : Int32) (m_size : Int32) (m_at : Int32) (m_start : Int32) (m_token : Int32) (m_value : Int64) (m_faultAt : Int32) (m_allowed : Int32) (m_firstPair : Int32) (m_secondPair : Int32) (m_above : Int64) (m_below : Int64) (m_refused : Nat → Int32) (m_tongue : Nat → Int32) : va_W := [(q, .inr (11, [.int m_thrown, .ref q_refused, .ref q_tongue, .ref q_fresh, .ref q_kept, .ref q_isKept, .ref q_text, .int m_size, .int m_at, .int m_start, .int m_token, .long m_value, .int m_faultAt, .ref q_said, .ref q_talk, .int m_allowed, .int m_firstPair, .int m_secondPair, .long m_above, .long m_below])), (q_refused, .inl (cI, 3, .inl m_refused)), (q_tongue, .inl (cI, 73, .inl m_tongue))]
abbrev rX11_of : Room := { frames := 2, cells := 0, slots := 0, locals := 46 }
def fX11_of_b25 (N : Nat)  (m_thrown : Int32) (m_refused : Nat → Int32) : Option (Int32 × Int32 × (Nat → Int32)) := gm_bind (fX11_bad N m_refused) (fun o3 => some (o3.1, m_thrown, o3.2))
def fX11_of (N : Nat) (m_thrown : Int32) (m_refused : Nat → Int32) (m_tongue : Nat → Int32) (x1 : Int32) (x2 : Int32) : Option (Int32 × Int32 × (Nat → Int32)) := gm_bind (fX11_noWord N m_tongue x1) (fun o1 => (if o1 = 0 then gm_bind (fX11_in N ((Int32.toInt64 x2)) 0 3) (fun o4 => (if o4 = 0 then (fX11_of_b25 N  0 m_refused) else (if x2 = 3 then gm_chk 2 73 (some ((((m_tongue (Int32.toNatClampNeg 2)) >>> (x1 &&& 31)) &&& 1), 0, m_refused)) else gm_chk (((5 + (3 * x1)) + x2)) 73 (some ((m_tongue (Int32.toNatClampNeg (((5 + (3 * x1)) + x2)))), 0, m_refused))))) else (fX11_of_b25 N  0 m_refused)))
set_option maxRecDepth 20000 in
theorem inX11_of_X11 : ∀ w ∈ u_ws RX11 TX11 20, w ∈ wsX11_of := fun w h => by
  obtain ⟨k, hk, rfl⟩ := List.mem_map.mp h
  have hk2 := List.mem_range.mp hk
  exact List.mem_of_getElem? (i := 21 + k) (by rcases (show k = 0 ∨ k = 1 ∨ k = 2 ∨ k = 3 ∨ k = 4 ∨ k = 5 ∨ k = 6 ∨ k = 7 ∨ k = 8 ∨ k = 9 ∨ k = 10 ∨ k = 11 ∨ k = 12 ∨ k = 13 ∨ k = 14 ∨ k = 15 ∨ k = 16 ∨ k = 17 ∨ k = 18 ∨ k = 19 by omega) with rfl | rfl | rfl | rfl | rfl | rfl | rfl | rfl | rfl | rfl | rfl | rfl | rfl | rfl | rfl | rfl | rfl | rfl | rfl | rfl <;> rfl)
set_option maxRecDepth 100000 in
set_option maxHeartbeats 4000000 in
theorem tX11_of_b25 {p : Program} {l : Launch} {e : Env} {s : State} {m : MethodId} {args : Array Value} {below : List Frame} {meth : Method} {c : Code} {A : Nat → Prop} {dC : Nat → ClassId} {dI : Nat → Nat → Nat} {cI : ClassId} {q q_refused q_tongue q_fresh q_kept q_isKept q_text q_said q_talk : Nat} {m_thrown : Int32} {m_size : Int32} {m_at : Int32} {m_start : Int32} {m_token : Int32} {m_value : Int64} {m_faultAt : Int32} {m_allowed : Int32} {m_firstPair : Int32} {m_secondPair : Int32} {m_above : Int64} {m_below : Int64} {m_refused : Nat → Int32} {m_tongue : Nat → Int32} (C0 : gm_C p s m args meth c (dC, dI) [(cI, .int)] A gm_T RX11 cX11_of 3 (some .int) wsX11_of) {N : Nat} {out : Int32 × Int32 × (Nat → Int32)}    {H : Heap} {locs : List Loc} {ls : Array Slot} (h : fX11_of_b25 N  m_thrown m_refused = some out) (hH : gm_H (dC, dI) A s (wX11_of cI q q_refused q_tongue q_fresh q_kept q_isKept q_text q_said q_talk m_thrown m_size m_at m_start m_token m_value m_faultAt m_allowed m_firstPair m_secondPair m_above m_below m_refused m_tongue) H locs) (hl : lv_has ls 3 [(0, .ref q)]) : W p l e rX11_of s m args below meth c H locs 0 0 (MQ below (gm_Q (dC, dI) [(cI, .int)] A (some (.int out.1)) (wX11_of cI q q_refused q_tongue q_fresh q_kept q_isKept q_text q_said q_talk out.2.1 m_size m_at m_start m_token m_value m_faultAt m_allowed m_firstPair m_secondPair m_above m_below out.2.2 m_tongue)) args s 0 0 A) (F0 m 25 ls []) := by
  obtain ⟨hx, hb, hml, hr, hown, hts, hA, hK, hX, hlocks⟩ := id C0
  unfold fX11_of_b25 at h
  refine lv_aload_n hx hb dX11_of_25 rfl (lv_at hl 0 rfl) ?_
  obtain ⟨o3, ho3, h⟩ := gm_bind_e h
  refine gm_callV (As := []) (rest := []) (n := 0) (ci := 11) (q0 := 0) C0 hH (mX11_bad l dC dI cI q q_refused q_tongue q_fresh q_kept q_isKept q_text q_said q_talk m_thrown m_size m_at m_start m_token m_value m_faultAt m_allowed m_firstPair m_secondPair m_above m_below m_refused    ho3) gX11_of_X11_bad rfl (by decide +kernel) ⟨rfl, rfl, Nat.le_of_ble_eq_true rfl, Nat.le_of_ble_eq_true rfl⟩ gm_T_ok (fun _ => trivial) [0, 1] rfl rfl rfl [0] rfl rfl rfl rfl hl.1 rfl (Nat.le_of_ble_eq_true rfl) dX11_of_26 ⟨Nat.zero_le _, Nat.zero_le _⟩ (fun H locs hH => ?_)
  have hH : gm_H (dC, dI) A s (wX11_of cI q q_refused q_tongue q_fresh q_kept q_isKept q_text q_said q_talk m_thrown m_size m_at m_start m_token m_value m_faultAt m_allowed m_firstPair m_secondPair m_above m_below o3.2 m_tongue) H locs := hH
  obtain rfl := Option.some.inj h
  exact gm_iret C0 hH dX11_of_29
set_option maxRecDepth 100000 in
set_option maxHeartbeats 4000000 in
theorem mX11_of (l : Launch) (dC : Nat → ClassId) (dI : Nat → Nat → Nat) (cI : ClassId) (q q_refused q_tongue q_fresh q_kept q_isKept q_text q_said q_talk : Nat) (m_thrown : Int32) (m_size : Int32) (m_at : Int32) (m_start : Int32) (m_token : Int32) (m_value : Int64) (m_faultAt : Int32) (m_allowed : Int32) (m_firstPair : Int32) (m_secondPair : Int32) (m_above : Int64) (m_below : Int64) (m_refused : Nat → Int32) (m_tongue : Nat → Int32) (x1 : Int32) (x2 : Int32)  {N : Nat} {out : Int32 × Int32 × (Nat → Int32)} (h : fX11_of N m_thrown m_refused m_tongue x1 x2 = some out) : gm_Met l yX11_of wsX11_of rX11_of (dC, dI) [(cI, .int)] gm_T [.ref q, .int x1, .int x2] (wX11_of cI q q_refused q_tongue q_fresh q_kept q_isKept q_text q_said q_talk m_thrown m_size m_at m_start m_token m_value m_faultAt m_allowed m_firstPair m_secondPair m_above m_below m_refused m_tongue) (some (.int out.1)) (wX11_of cI q q_refused q_tongue q_fresh q_kept q_isKept q_text q_said q_talk out.2.1 m_size m_at m_start m_token m_value m_faultAt m_allowed m_firstPair m_secondPair m_above m_below out.2.2 m_tongue) := by
  refine gm_ofW (cc := cX11_of) (maxL := 3) (ret := (some .int)) (by decide +kernel) rfl (Nat.le_of_ble_eq_true rfl) ?_
  intro p e s m below meth c A C0 hH ls hl
  generalize ([.ref q, .int x1, .int x2] : List Value).toArray = args at C0 ⊢
  have hl : lv_has ls 3 [(0, .ref q), (1, .int x1), (2, .int x2)] := hl
  generalize s.heap = H at hH ⊢
  generalize ([] : List Loc) = locs at hH ⊢
  obtain ⟨hx, hb, hml, hr, hown, hts, hA, hK, hX, hlocks⟩ := id C0
  unfold fX11_of at h
  refine lv_aload_n hx hb dX11_of_0 rfl (lv_at hl 0 rfl) ?_
  refine lv_iconst (v := 0) hx hb dX11_of_1 (by decide) ?_
  refine gm_putf (ci := 11) C0 hH inX11_of_X11 tyX11_ok nmX11 0 0 1 rfl rfl (by decide) rfl rfl rfl rfl rfl (Nat.le_of_ble_eq_true rfl) dX11_of_2 (fun H locs hH => ?_)
  have hH : gm_H (dC, dI) A s (wX11_of cI q q_refused q_tongue q_fresh q_kept q_isKept q_text q_said q_talk 0 m_size m_at m_start m_token m_value m_faultAt m_allowed m_firstPair m_secondPair m_above m_below m_refused m_tongue) H locs := hH
  refine lv_aload_n hx hb dX11_of_5 rfl (lv_at hl 0 rfl) ?_
  refine lv_iload_n hx hb dX11_of_6 rfl (lv_at hl 1 rfl) ?_
  obtain ⟨o1, ho1, h⟩ := gm_bind_e h
  refine gm_callV (As := [.int x1]) (rest := []) (n := 1) (ci := 11) (q0 := 0) C0 hH (mX11_noWord l dC dI cI q q_tongue q_refused q_fresh q_kept q_isKept q_text q_said q_talk 0 m_size m_at m_start m_token m_value m_faultAt m_allowed m_firstPair m_secondPair m_above m_below m_tongue x1   ho1) gX11_of_X11_noWord rfl (by decide +kernel) ⟨rfl, rfl, Nat.le_of_ble_eq_true rfl, Nat.le_of_ble_eq_true rfl⟩ gm_T_ok (fun _ => trivial) [0, 2] rfl rfl rfl [0] rfl rfl rfl rfl hl.1 rfl (Nat.le_of_ble_eq_true rfl) dX11_of_7 ⟨Nat.zero_le _, Nat.zero_le _⟩ (fun H locs hH => ?_)
  have hH : gm_H (dC, dI) A s (wX11_of cI q q_refused q_tongue q_fresh q_kept q_isKept q_text q_said q_talk 0 m_size m_at m_start m_token m_value m_faultAt m_allowed m_firstPair m_secondPair m_above m_below m_refused m_tongue) H locs := hH
  refine lv_if_ne (tgt := 25) hx hb dX11_of_10 (by decide) (fun hc2 => ?_) (fun hc2 => ?_)
  · replace h := gm_neg hc2 h
    exact tX11_of_b25 C0  h hH (lv_sub hl [0] rfl)
  · replace h := gm_pos hc2 h
    refine lv_iload_n hx hb dX11_of_13 rfl (lv_at hl 2 rfl) ?_
    refine lv_i2l hx hb dX11_of_14 rfl ?_
    refine lv_lconst (v := 0) hx hb dX11_of_15 (by decide) ?_
    refine lv_ldc2 (own := RX11) (v := 3) hx hb hown (gm_at C0 2 rfl) dX11_of_16 ?_
    obtain ⟨o4, ho4, h⟩ := gm_bind_e h
    refine gm_callS (As := [.long (Int32.toInt64 x2), .long 0, .long 3]) (rest := []) (n := 3) C0 hH (mX11_in l dC dI    ((Int32.toInt64 x2)) 0 3   ho4) gX11_of_X11_in rfl (by decide +kernel) ⟨rfl, rfl, Nat.le_of_ble_eq_true rfl, Nat.le_of_ble_eq_true rfl⟩ gm_T_ok (fun _ => trivial) [] rfl rfl rfl [] rfl rfl hl.1 rfl (Nat.le_of_ble_eq_true rfl) dX11_of_19 ⟨Nat.zero_le _, Nat.zero_le _⟩ (fun H locs hH => ?_)
    have hH : gm_H (dC, dI) A s (wX11_of cI q q_refused q_tongue q_fresh q_kept q_isKept q_text q_said q_talk 0 m_size m_at m_start m_token m_value m_faultAt m_allowed m_firstPair m_secondPair m_above m_below m_refused m_tongue) H locs := hH
    refine lv_if_ne (tgt := 30) hx hb dX11_of_22 (by decide) (fun hc5 => ?_) (fun hc5 => ?_)
    · replace h := gm_neg hc5 h
      refine lv_iload_n hx hb dX11_of_30 rfl (lv_at hl 2 rfl) ?_
      refine lv_iconst (v := 3) hx hb dX11_of_31 (by decide) ?_
      refine lv_icmp_ne (tgt := 48) hx hb dX11_of_32 (by decide) (fun hc6 => ?_) (fun hc6 => ?_)
      · replace h := gm_neg hc6 h
        refine lv_aload_n hx hb dX11_of_48 rfl (lv_at hl 0 rfl) ?_
        refine gm_get (ci := 11) C0 hH inX11_of_X11 0 2 3 rfl rfl (by decide) rfl rfl dX11_of_49 ?_
        refine lv_iconst (v := 5) hx hb dX11_of_52 (by decide) ?_
        refine lv_iconst (v := 3) hx hb dX11_of_53 (by decide) ?_
        refine lv_iload_n hx hb dX11_of_54 rfl (lv_at hl 1 rfl) ?_
        refine lv_imul hx hb dX11_of_55 ?_
        refine lv_iadd hx hb dX11_of_56 ?_
        refine lv_iload_n hx hb dX11_of_57 rfl (lv_at hl 2 rfl) ?_
        refine lv_iadd hx hb dX11_of_58 ?_
        obtain ⟨hi7, h⟩ := gm_chk_e h
        refine gm_iald C0 hH hi7 2 0 rfl rfl dX11_of_59 ?_
        obtain rfl := Option.some.inj h
        exact gm_iret C0 hH dX11_of_60
      · replace h := gm_pos hc6 h
        refine lv_aload_n hx hb dX11_of_35 rfl (lv_at hl 0 rfl) ?_
        refine gm_get (ci := 11) C0 hH inX11_of_X11 0 2 3 rfl rfl (by decide) rfl rfl dX11_of_36 ?_
        refine lv_iconst (v := 2) hx hb dX11_of_39 (by decide) ?_
        obtain ⟨hi8, h⟩ := gm_chk_e h
        refine gm_iald C0 hH hi8 2 0 rfl rfl dX11_of_40 ?_
        refine lv_iload_n hx hb dX11_of_41 rfl (lv_at hl 1 rfl) ?_
        refine lv_ishr hx hb dX11_of_42 ?_
        refine lv_iconst (v := 1) hx hb dX11_of_43 (by decide) ?_
        refine lv_iand hx hb dX11_of_44 ?_
        refine lv_goto (tgt := 60) hx hb dX11_of_45 (by decide) ?_
        obtain rfl := Option.some.inj h
        exact gm_iret C0 hH dX11_of_60
    · replace h := gm_pos hc5 h
      exact tX11_of_b25 C0  h hH (lv_sub hl [0] rfl)

/-! X11_about -/
abbrev wX11_about (cI : ClassId) (q q_refused q_tongue q_fresh q_kept q_isKept q_text q_said q_talk : Nat) (m_thrown : Int32) (m_size : Int32) (m_at : Int32) (m_start : Int32) (m_token : Int32) (m_value : Int64) (m_faultAt : Int32) (m_allowed : Int32) (m_firstPair : Int32) (m_secondPair : Int32) (m_above : Int64) (m_below : Int64) (m_refused : Nat → Int32) (m_tongue : Nat → Int32) : va_W := [(q, .inr (11, [.int m_thrown, .ref q_refused, .ref q_tongue, .ref q_fresh, .ref q_kept, .ref q_isKept, .ref q_text, .int m_size, .int m_at, .int m_start, .int m_token, .long m_value, .int m_faultAt, .ref q_said, .ref q_talk, .int m_allowed, .int m_firstPair, .int m_secondPair, .long m_above, .long m_below])), (q_refused, .inl (cI, 3, .inl m_refused)), (q_tongue, .inl (cI, 73, .inl m_tongue))]
abbrev rX11_about : Room := { frames := 2, cells := 0, slots := 0, locals := 46 }
def fX11_about_b23 (N : Nat)  (m_thrown : Int32) (m_refused : Nat → Int32) : Option (Int32 × Int32 × (Nat → Int32)) := gm_bind (fX11_bad N m_refused) (fun o3 => some (o3.1, m_thrown, o3.2))
def fX11_about (N : Nat) (m_thrown : Int32) (m_refused : Nat → Int32) (m_tongue : Nat → Int32) (x1 : Int32) (x2 : Int32) : Option (Int32 × Int32 × (Nat → Int32)) := gm_bind (fX11_noPerson N m_tongue x1) (fun o1 => (if o1 = 0 then gm_bind (fX11_in N ((Int32.toInt64 x2)) 0 1) (fun o4 => (if o4 = 0 then (fX11_about_b23 N  0 m_refused) else gm_chk (((35 + (2 * x1)) + x2)) 73 (some ((m_tongue (Int32.toNatClampNeg (((35 + (2 * x1)) + x2)))), 0, m_refused)))) else (fX11_about_b23 N  0 m_refused)))
set_option maxRecDepth 20000 in
theorem inX11_about_X11 : ∀ w ∈ u_ws RX11 TX11 20, w ∈ wsX11_about := fun w h => by
  obtain ⟨k, hk, rfl⟩ := List.mem_map.mp h
  have hk2 := List.mem_range.mp hk
  exact List.mem_of_getElem? (i := 20 + k) (by rcases (show k = 0 ∨ k = 1 ∨ k = 2 ∨ k = 3 ∨ k = 4 ∨ k = 5 ∨ k = 6 ∨ k = 7 ∨ k = 8 ∨ k = 9 ∨ k = 10 ∨ k = 11 ∨ k = 12 ∨ k = 13 ∨ k = 14 ∨ k = 15 ∨ k = 16 ∨ k = 17 ∨ k = 18 ∨ k = 19 by omega) with rfl | rfl | rfl | rfl | rfl | rfl | rfl | rfl | rfl | rfl | rfl | rfl | rfl | rfl | rfl | rfl | rfl | rfl | rfl | rfl <;> rfl)
set_option maxRecDepth 100000 in
set_option maxHeartbeats 4000000 in
theorem tX11_about_b23 {p : Program} {l : Launch} {e : Env} {s : State} {m : MethodId} {args : Array Value} {below : List Frame} {meth : Method} {c : Code} {A : Nat → Prop} {dC : Nat → ClassId} {dI : Nat → Nat → Nat} {cI : ClassId} {q q_refused q_tongue q_fresh q_kept q_isKept q_text q_said q_talk : Nat} {m_thrown : Int32} {m_size : Int32} {m_at : Int32} {m_start : Int32} {m_token : Int32} {m_value : Int64} {m_faultAt : Int32} {m_allowed : Int32} {m_firstPair : Int32} {m_secondPair : Int32} {m_above : Int64} {m_below : Int64} {m_refused : Nat → Int32} {m_tongue : Nat → Int32} (C0 : gm_C p s m args meth c (dC, dI) [(cI, .int)] A gm_T RX11 cX11_about 3 (some .int) wsX11_about) {N : Nat} {out : Int32 × Int32 × (Nat → Int32)}    {H : Heap} {locs : List Loc} {ls : Array Slot} (h : fX11_about_b23 N  m_thrown m_refused = some out) (hH : gm_H (dC, dI) A s (wX11_about cI q q_refused q_tongue q_fresh q_kept q_isKept q_text q_said q_talk m_thrown m_size m_at m_start m_token m_value m_faultAt m_allowed m_firstPair m_secondPair m_above m_below m_refused m_tongue) H locs) (hl : lv_has ls 3 [(0, .ref q)]) : W p l e rX11_about s m args below meth c H locs 0 0 (MQ below (gm_Q (dC, dI) [(cI, .int)] A (some (.int out.1)) (wX11_about cI q q_refused q_tongue q_fresh q_kept q_isKept q_text q_said q_talk out.2.1 m_size m_at m_start m_token m_value m_faultAt m_allowed m_firstPair m_secondPair m_above m_below out.2.2 m_tongue)) args s 0 0 A) (F0 m 23 ls []) := by
  obtain ⟨hx, hb, hml, hr, hown, hts, hA, hK, hX, hlocks⟩ := id C0
  unfold fX11_about_b23 at h
  refine lv_aload_n hx hb dX11_about_23 rfl (lv_at hl 0 rfl) ?_
  obtain ⟨o3, ho3, h⟩ := gm_bind_e h
  refine gm_callV (As := []) (rest := []) (n := 0) (ci := 11) (q0 := 0) C0 hH (mX11_bad l dC dI cI q q_refused q_tongue q_fresh q_kept q_isKept q_text q_said q_talk m_thrown m_size m_at m_start m_token m_value m_faultAt m_allowed m_firstPair m_secondPair m_above m_below m_refused    ho3) gX11_about_X11_bad rfl (by decide +kernel) ⟨rfl, rfl, Nat.le_of_ble_eq_true rfl, Nat.le_of_ble_eq_true rfl⟩ gm_T_ok (fun _ => trivial) [0, 1] rfl rfl rfl [0] rfl rfl rfl rfl hl.1 rfl (Nat.le_of_ble_eq_true rfl) dX11_about_24 ⟨Nat.zero_le _, Nat.zero_le _⟩ (fun H locs hH => ?_)
  have hH : gm_H (dC, dI) A s (wX11_about cI q q_refused q_tongue q_fresh q_kept q_isKept q_text q_said q_talk m_thrown m_size m_at m_start m_token m_value m_faultAt m_allowed m_firstPair m_secondPair m_above m_below o3.2 m_tongue) H locs := hH
  refine lv_goto (tgt := 43) hx hb dX11_about_27 (by decide) ?_
  obtain rfl := Option.some.inj h
  exact gm_iret C0 hH dX11_about_43
set_option maxRecDepth 100000 in
set_option maxHeartbeats 4000000 in
theorem mX11_about (l : Launch) (dC : Nat → ClassId) (dI : Nat → Nat → Nat) (cI : ClassId) (q q_refused q_tongue q_fresh q_kept q_isKept q_text q_said q_talk : Nat) (m_thrown : Int32) (m_size : Int32) (m_at : Int32) (m_start : Int32) (m_token : Int32) (m_value : Int64) (m_faultAt : Int32) (m_allowed : Int32) (m_firstPair : Int32) (m_secondPair : Int32) (m_above : Int64) (m_below : Int64) (m_refused : Nat → Int32) (m_tongue : Nat → Int32) (x1 : Int32) (x2 : Int32)  {N : Nat} {out : Int32 × Int32 × (Nat → Int32)} (h : fX11_about N m_thrown m_refused m_tongue x1 x2 = some out) : gm_Met l yX11_about wsX11_about rX11_about (dC, dI) [(cI, .int)] gm_T [.ref q, .int x1, .int x2] (wX11_about cI q q_refused q_tongue q_fresh q_kept q_isKept q_text q_said q_talk m_thrown m_size m_at m_start m_token m_value m_faultAt m_allowed m_firstPair m_secondPair m_above m_below m_refused m_tongue) (some (.int out.1)) (wX11_about cI q q_refused q_tongue q_fresh q_kept q_isKept q_text q_said q_talk out.2.1 m_size m_at m_start m_token m_value m_faultAt m_allowed m_firstPair m_secondPair m_above m_below out.2.2 m_tongue) := by
  refine gm_ofW (cc := cX11_about) (maxL := 3) (ret := (some .int)) (by decide +kernel) rfl (Nat.le_of_ble_eq_true rfl) ?_
  intro p e s m below meth c A C0 hH ls hl
  generalize ([.ref q, .int x1, .int x2] : List Value).toArray = args at C0 ⊢
  have hl : lv_has ls 3 [(0, .ref q), (1, .int x1), (2, .int x2)] := hl
  generalize s.heap = H at hH ⊢
  generalize ([] : List Loc) = locs at hH ⊢
  obtain ⟨hx, hb, hml, hr, hown, hts, hA, hK, hX, hlocks⟩ := id C0
  unfold fX11_about at h
  refine lv_aload_n hx hb dX11_about_0 rfl (lv_at hl 0 rfl) ?_
  refine lv_iconst (v := 0) hx hb dX11_about_1 (by decide) ?_
  refine gm_putf (ci := 11) C0 hH inX11_about_X11 tyX11_ok nmX11 0 0 1 rfl rfl (by decide) rfl rfl rfl rfl rfl (Nat.le_of_ble_eq_true rfl) dX11_about_2 (fun H locs hH => ?_)
  have hH : gm_H (dC, dI) A s (wX11_about cI q q_refused q_tongue q_fresh q_kept q_isKept q_text q_said q_talk 0 m_size m_at m_start m_token m_value m_faultAt m_allowed m_firstPair m_secondPair m_above m_below m_refused m_tongue) H locs := hH
  refine lv_aload_n hx hb dX11_about_5 rfl (lv_at hl 0 rfl) ?_
  refine lv_iload_n hx hb dX11_about_6 rfl (lv_at hl 1 rfl) ?_
  obtain ⟨o1, ho1, h⟩ := gm_bind_e h
  refine gm_callV (As := [.int x1]) (rest := []) (n := 1) (ci := 11) (q0 := 0) C0 hH (mX11_noPerson l dC dI cI q q_tongue q_refused q_fresh q_kept q_isKept q_text q_said q_talk 0 m_size m_at m_start m_token m_value m_faultAt m_allowed m_firstPair m_secondPair m_above m_below m_tongue x1   ho1) gX11_about_X11_noPerson rfl (by decide +kernel) ⟨rfl, rfl, Nat.le_of_ble_eq_true rfl, Nat.le_of_ble_eq_true rfl⟩ gm_T_ok (fun _ => trivial) [0, 2] rfl rfl rfl [0] rfl rfl rfl rfl hl.1 rfl (Nat.le_of_ble_eq_true rfl) dX11_about_7 ⟨Nat.zero_le _, Nat.zero_le _⟩ (fun H locs hH => ?_)
  have hH : gm_H (dC, dI) A s (wX11_about cI q q_refused q_tongue q_fresh q_kept q_isKept q_text q_said q_talk 0 m_size m_at m_start m_token m_value m_faultAt m_allowed m_firstPair m_secondPair m_above m_below m_refused m_tongue) H locs := hH
  refine lv_if_ne (tgt := 23) hx hb dX11_about_10 (by decide) (fun hc2 => ?_) (fun hc2 => ?_)
  · replace h := gm_neg hc2 h
    exact tX11_about_b23 C0  h hH (lv_sub hl [0] rfl)
  · replace h := gm_pos hc2 h
    refine lv_iload_n hx hb dX11_about_13 rfl (lv_at hl 2 rfl) ?_
    refine lv_i2l hx hb dX11_about_14 rfl ?_
    refine lv_lconst (v := 0) hx hb dX11_about_15 (by decide) ?_
    refine lv_lconst (v := 1) hx hb dX11_about_16 (by decide) ?_
    obtain ⟨o4, ho4, h⟩ := gm_bind_e h
    refine gm_callS (As := [.long (Int32.toInt64 x2), .long 0, .long 1]) (rest := []) (n := 3) C0 hH (mX11_in l dC dI    ((Int32.toInt64 x2)) 0 1   ho4) gX11_about_X11_in rfl (by decide +kernel) ⟨rfl, rfl, Nat.le_of_ble_eq_true rfl, Nat.le_of_ble_eq_true rfl⟩ gm_T_ok (fun _ => trivial) [] rfl rfl rfl [] rfl rfl hl.1 rfl (Nat.le_of_ble_eq_true rfl) dX11_about_17 ⟨Nat.zero_le _, Nat.zero_le _⟩ (fun H locs hH => ?_)
    have hH : gm_H (dC, dI) A s (wX11_about cI q q_refused q_tongue q_fresh q_kept q_isKept q_text q_said q_talk 0 m_size m_at m_start m_token m_value m_faultAt m_allowed m_firstPair m_secondPair m_above m_below m_refused m_tongue) H locs := hH
    refine lv_if_ne (tgt := 30) hx hb dX11_about_20 (by decide) (fun hc5 => ?_) (fun hc5 => ?_)
    · replace h := gm_neg hc5 h
      refine lv_aload_n hx hb dX11_about_30 rfl (lv_at hl 0 rfl) ?_
      refine gm_get (ci := 11) C0 hH inX11_about_X11 0 2 2 rfl rfl (by decide) rfl rfl dX11_about_31 ?_
      refine lv_bipush (v := 35) hx hb dX11_about_34 (by decide) ?_
      refine lv_iconst (v := 2) hx hb dX11_about_36 (by decide) ?_
      refine lv_iload_n hx hb dX11_about_37 rfl (lv_at hl 1 rfl) ?_
      refine lv_imul hx hb dX11_about_38 ?_
      refine lv_iadd hx hb dX11_about_39 ?_
      refine lv_iload_n hx hb dX11_about_40 rfl (lv_at hl 2 rfl) ?_
      refine lv_iadd hx hb dX11_about_41 ?_
      obtain ⟨hi6, h⟩ := gm_chk_e h
      refine gm_iald C0 hH hi6 2 0 rfl rfl dX11_about_42 ?_
      obtain rfl := Option.some.inj h
      exact gm_iret C0 hH dX11_about_43
    · replace h := gm_pos hc5 h
      exact tX11_about_b23 C0  h hH (lv_sub hl [0] rfl)

/-! X11_answers -/
abbrev wX11_answers (cI : ClassId) (q q_refused q_tongue q_fresh q_kept q_isKept q_text q_said q_talk : Nat) (m_thrown : Int32) (m_size : Int32) (m_at : Int32) (m_start : Int32) (m_token : Int32) (m_value : Int64) (m_faultAt : Int32) (m_allowed : Int32) (m_firstPair : Int32) (m_secondPair : Int32) (m_above : Int64) (m_below : Int64) (m_refused : Nat → Int32) (m_tongue : Nat → Int32) : va_W := [(q, .inr (11, [.int m_thrown, .ref q_refused, .ref q_tongue, .ref q_fresh, .ref q_kept, .ref q_isKept, .ref q_text, .int m_size, .int m_at, .int m_start, .int m_token, .long m_value, .int m_faultAt, .ref q_said, .ref q_talk, .int m_allowed, .int m_firstPair, .int m_secondPair, .long m_above, .long m_below])), (q_refused, .inl (cI, 3, .inl m_refused)), (q_tongue, .inl (cI, 73, .inl m_tongue))]
abbrev rX11_answers : Room := { frames := 7, cells := 0, slots := 0, locals := 157 }
def fX11_answers_b33 (N : Nat)  (m_thrown : Int32) (m_refused : Nat → Int32) : Option (Int32 × Int32 × (Nat → Int32)) := gm_bind (fX11_bad N m_refused) (fun o3 => some (o3.1, m_thrown, o3.2))
def fX11_answers (N : Nat) (m_thrown : Int32) (m_refused : Nat → Int32) (m_tongue : Nat → Int32) (x1 : Int32) (x2 : Int32) (x3 : Int32) : Option (Int32 × Int32 × (Nat → Int32)) := gm_bind (fX11_noPerson N m_tongue x1) (fun o1 => (if o1 = 0 then gm_bind (fX11_noWord N m_tongue x2) (fun o4 => (if o4 = 0 then gm_bind (fX11_in N ((Int32.toInt64 x3)) 0 2) (fun o6 => (if o6 = 0 then (fX11_answers_b33 N  0 m_refused) else (if x3 = 0 then gm_bind (fX11_chimesWith N m_tongue x1 x2) (fun o12 => some (o12, 0, m_refused)) else (if x3 = 1 then gm_bind (fX11_answersTo N m_tongue x1 x2) (fun o11 => some (o11, 0, m_refused)) else gm_bind (fX11_canSay N m_tongue x1 x2) (fun o10 => some (o10, 0, m_refused)))))) else (fX11_answers_b33 N  0 m_refused))) else (fX11_answers_b33 N  0 m_refused)))
set_option maxRecDepth 20000 in
theorem inX11_answers_X11 : ∀ w ∈ u_ws RX11 TX11 20, w ∈ wsX11_answers := fun w h => by
  obtain ⟨k, hk, rfl⟩ := List.mem_map.mp h
  have hk2 := List.mem_range.mp hk
  exact List.mem_of_getElem? (i := 76 + k) (by rcases (show k = 0 ∨ k = 1 ∨ k = 2 ∨ k = 3 ∨ k = 4 ∨ k = 5 ∨ k = 6 ∨ k = 7 ∨ k = 8 ∨ k = 9 ∨ k = 10 ∨ k = 11 ∨ k = 12 ∨ k = 13 ∨ k = 14 ∨ k = 15 ∨ k = 16 ∨ k = 17 ∨ k = 18 ∨ k = 19 by omega) with rfl | rfl | rfl | rfl | rfl | rfl | rfl | rfl | rfl | rfl | rfl | rfl | rfl | rfl | rfl | rfl | rfl | rfl | rfl | rfl <;> rfl)
set_option maxRecDepth 100000 in
set_option maxHeartbeats 4000000 in
theorem tX11_answers_b33 {p : Program} {l : Launch} {e : Env} {s : State} {m : MethodId} {args : Array Value} {below : List Frame} {meth : Method} {c : Code} {A : Nat → Prop} {dC : Nat → ClassId} {dI : Nat → Nat → Nat} {cI : ClassId} {q q_refused q_tongue q_fresh q_kept q_isKept q_text q_said q_talk : Nat} {m_thrown : Int32} {m_size : Int32} {m_at : Int32} {m_start : Int32} {m_token : Int32} {m_value : Int64} {m_faultAt : Int32} {m_allowed : Int32} {m_firstPair : Int32} {m_secondPair : Int32} {m_above : Int64} {m_below : Int64} {m_refused : Nat → Int32} {m_tongue : Nat → Int32} (C0 : gm_C p s m args meth c (dC, dI) [(cI, .int)] A gm_T RX11 cX11_answers 4 (some .int) wsX11_answers) {N : Nat} {out : Int32 × Int32 × (Nat → Int32)}    {H : Heap} {locs : List Loc} {ls : Array Slot} (h : fX11_answers_b33 N  m_thrown m_refused = some out) (hH : gm_H (dC, dI) A s (wX11_answers cI q q_refused q_tongue q_fresh q_kept q_isKept q_text q_said q_talk m_thrown m_size m_at m_start m_token m_value m_faultAt m_allowed m_firstPair m_secondPair m_above m_below m_refused m_tongue) H locs) (hl : lv_has ls 4 [(0, .ref q)]) : W p l e rX11_answers s m args below meth c H locs 0 0 (MQ below (gm_Q (dC, dI) [(cI, .int)] A (some (.int out.1)) (wX11_answers cI q q_refused q_tongue q_fresh q_kept q_isKept q_text q_said q_talk out.2.1 m_size m_at m_start m_token m_value m_faultAt m_allowed m_firstPair m_secondPair m_above m_below out.2.2 m_tongue)) args s 0 0 A) (F0 m 33 ls []) := by
  obtain ⟨hx, hb, hml, hr, hown, hts, hA, hK, hX, hlocks⟩ := id C0
  unfold fX11_answers_b33 at h
  refine lv_aload_n hx hb dX11_answers_33 rfl (lv_at hl 0 rfl) ?_
  obtain ⟨o3, ho3, h⟩ := gm_bind_e h
  refine gm_callV (As := []) (rest := []) (n := 0) (ci := 11) (q0 := 0) C0 hH (mX11_bad l dC dI cI q q_refused q_tongue q_fresh q_kept q_isKept q_text q_said q_talk m_thrown m_size m_at m_start m_token m_value m_faultAt m_allowed m_firstPair m_secondPair m_above m_below m_refused    ho3) gX11_answers_X11_bad rfl (by decide +kernel) ⟨rfl, rfl, Nat.le_of_ble_eq_true rfl, Nat.le_of_ble_eq_true rfl⟩ gm_T_ok (fun _ => trivial) [0, 1] rfl rfl rfl [0] rfl rfl rfl rfl hl.1 rfl (Nat.le_of_ble_eq_true rfl) dX11_answers_34 ⟨Nat.zero_le _, Nat.zero_le _⟩ (fun H locs hH => ?_)
  have hH : gm_H (dC, dI) A s (wX11_answers cI q q_refused q_tongue q_fresh q_kept q_isKept q_text q_said q_talk m_thrown m_size m_at m_start m_token m_value m_faultAt m_allowed m_firstPair m_secondPair m_above m_below o3.2 m_tongue) H locs := hH
  obtain rfl := Option.some.inj h
  exact gm_iret C0 hH dX11_answers_37
set_option maxRecDepth 100000 in
set_option maxHeartbeats 4000000 in
theorem mX11_answers (l : Launch) (dC : Nat → ClassId) (dI : Nat → Nat → Nat) (cI : ClassId) (q q_refused q_tongue q_fresh q_kept q_isKept q_text q_said q_talk : Nat) (m_thrown : Int32) (m_size : Int32) (m_at : Int32) (m_start : Int32) (m_token : Int32) (m_value : Int64) (m_faultAt : Int32) (m_allowed : Int32) (m_firstPair : Int32) (m_secondPair : Int32) (m_above : Int64) (m_below : Int64) (m_refused : Nat → Int32) (m_tongue : Nat → Int32) (x1 : Int32) (x2 : Int32) (x3 : Int32)  {N : Nat} {out : Int32 × Int32 × (Nat → Int32)} (h : fX11_answers N m_thrown m_refused m_tongue x1 x2 x3 = some out) : gm_Met l yX11_answers wsX11_answers rX11_answers (dC, dI) [(cI, .int)] gm_T [.ref q, .int x1, .int x2, .int x3] (wX11_answers cI q q_refused q_tongue q_fresh q_kept q_isKept q_text q_said q_talk m_thrown m_size m_at m_start m_token m_value m_faultAt m_allowed m_firstPair m_secondPair m_above m_below m_refused m_tongue) (some (.int out.1)) (wX11_answers cI q q_refused q_tongue q_fresh q_kept q_isKept q_text q_said q_talk out.2.1 m_size m_at m_start m_token m_value m_faultAt m_allowed m_firstPair m_secondPair m_above m_below out.2.2 m_tongue) := by
  refine gm_ofW (cc := cX11_answers) (maxL := 4) (ret := (some .int)) (by decide +kernel) rfl (Nat.le_of_ble_eq_true rfl) ?_
  intro p e s m below meth c A C0 hH ls hl
  generalize ([.ref q, .int x1, .int x2, .int x3] : List Value).toArray = args at C0 ⊢
  have hl : lv_has ls 4 [(0, .ref q), (1, .int x1), (2, .int x2), (3, .int x3)] := hl
  generalize s.heap = H at hH ⊢
  generalize ([] : List Loc) = locs at hH ⊢
  obtain ⟨hx, hb, hml, hr, hown, hts, hA, hK, hX, hlocks⟩ := id C0
  unfold fX11_answers at h
  refine lv_aload_n hx hb dX11_answers_0 rfl (lv_at hl 0 rfl) ?_
  refine lv_iconst (v := 0) hx hb dX11_answers_1 (by decide) ?_
  refine gm_putf (ci := 11) C0 hH inX11_answers_X11 tyX11_ok nmX11 0 0 1 rfl rfl (by decide) rfl rfl rfl rfl rfl (Nat.le_of_ble_eq_true rfl) dX11_answers_2 (fun H locs hH => ?_)
  have hH : gm_H (dC, dI) A s (wX11_answers cI q q_refused q_tongue q_fresh q_kept q_isKept q_text q_said q_talk 0 m_size m_at m_start m_token m_value m_faultAt m_allowed m_firstPair m_secondPair m_above m_below m_refused m_tongue) H locs := hH
  refine lv_aload_n hx hb dX11_answers_5 rfl (lv_at hl 0 rfl) ?_
  refine lv_iload_n hx hb dX11_answers_6 rfl (lv_at hl 1 rfl) ?_
  obtain ⟨o1, ho1, h⟩ := gm_bind_e h
  refine gm_callV (As := [.int x1]) (rest := []) (n := 1) (ci := 11) (q0 := 0) C0 hH (mX11_noPerson l dC dI cI q q_tongue q_refused q_fresh q_kept q_isKept q_text q_said q_talk 0 m_size m_at m_start m_token m_value m_faultAt m_allowed m_firstPair m_secondPair m_above m_below m_tongue x1   ho1) gX11_answers_X11_noPerson rfl (by decide +kernel) ⟨rfl, rfl, Nat.le_of_ble_eq_true rfl, Nat.le_of_ble_eq_true rfl⟩ gm_T_ok (fun _ => trivial) [0, 2] rfl rfl rfl [0] rfl rfl rfl rfl hl.1 rfl (Nat.le_of_ble_eq_true rfl) dX11_answers_7 ⟨Nat.zero_le _, Nat.zero_le _⟩ (fun H locs hH => ?_)
  have hH : gm_H (dC, dI) A s (wX11_answers cI q q_refused q_tongue q_fresh q_kept q_isKept q_text q_said q_talk 0 m_size m_at m_start m_token m_value m_faultAt m_allowed m_firstPair m_secondPair m_above m_below m_refused m_tongue) H locs := hH
  refine lv_if_ne (tgt := 33) hx hb dX11_answers_10 (by decide) (fun hc2 => ?_) (fun hc2 => ?_)
  · replace h := gm_neg hc2 h
    exact tX11_answers_b33 C0  h hH (lv_sub hl [0] rfl)
  · replace h := gm_pos hc2 h
    refine lv_aload_n hx hb dX11_answers_13 rfl (lv_at hl 0 rfl) ?_
    refine lv_iload_n hx hb dX11_answers_14 rfl (lv_at hl 2 rfl) ?_
    obtain ⟨o4, ho4, h⟩ := gm_bind_e h
    refine gm_callV (As := [.int x2]) (rest := []) (n := 1) (ci := 11) (q0 := 0) C0 hH (mX11_noWord l dC dI cI q q_tongue q_refused q_fresh q_kept q_isKept q_text q_said q_talk 0 m_size m_at m_start m_token m_value m_faultAt m_allowed m_firstPair m_secondPair m_above m_below m_tongue x2   ho4) gX11_answers_X11_noWord rfl (by decide +kernel) ⟨rfl, rfl, Nat.le_of_ble_eq_true rfl, Nat.le_of_ble_eq_true rfl⟩ gm_T_ok (fun _ => trivial) [0, 2] rfl rfl rfl [0] rfl rfl rfl rfl hl.1 rfl (Nat.le_of_ble_eq_true rfl) dX11_answers_15 ⟨Nat.zero_le _, Nat.zero_le _⟩ (fun H locs hH => ?_)
    have hH : gm_H (dC, dI) A s (wX11_answers cI q q_refused q_tongue q_fresh q_kept q_isKept q_text q_said q_talk 0 m_size m_at m_start m_token m_value m_faultAt m_allowed m_firstPair m_secondPair m_above m_below m_refused m_tongue) H locs := hH
    refine lv_if_ne (tgt := 33) hx hb dX11_answers_18 (by decide) (fun hc5 => ?_) (fun hc5 => ?_)
    · replace h := gm_neg hc5 h
      exact tX11_answers_b33 C0  h hH (lv_sub hl [0] rfl)
    · replace h := gm_pos hc5 h
      refine lv_iload_n hx hb dX11_answers_21 rfl (lv_at hl 3 rfl) ?_
      refine lv_i2l hx hb dX11_answers_22 rfl ?_
      refine lv_lconst (v := 0) hx hb dX11_answers_23 (by decide) ?_
      refine lv_ldc2 (own := RX11) (v := 2) hx hb hown (gm_at C0 2 rfl) dX11_answers_24 ?_
      obtain ⟨o6, ho6, h⟩ := gm_bind_e h
      refine gm_callS (As := [.long (Int32.toInt64 x3), .long 0, .long 2]) (rest := []) (n := 3) C0 hH (mX11_in l dC dI    ((Int32.toInt64 x3)) 0 2   ho6) gX11_answers_X11_in rfl (by decide +kernel) ⟨rfl, rfl, Nat.le_of_ble_eq_true rfl, Nat.le_of_ble_eq_true rfl⟩ gm_T_ok (fun _ => trivial) [] rfl rfl rfl [] rfl rfl hl.1 rfl (Nat.le_of_ble_eq_true rfl) dX11_answers_27 ⟨Nat.zero_le _, Nat.zero_le _⟩ (fun H locs hH => ?_)
      have hH : gm_H (dC, dI) A s (wX11_answers cI q q_refused q_tongue q_fresh q_kept q_isKept q_text q_said q_talk 0 m_size m_at m_start m_token m_value m_faultAt m_allowed m_firstPair m_secondPair m_above m_below m_refused m_tongue) H locs := hH
      refine lv_if_ne (tgt := 38) hx hb dX11_answers_30 (by decide) (fun hc7 => ?_) (fun hc7 => ?_)
      · replace h := gm_neg hc7 h
        refine lv_iload_n hx hb dX11_answers_38 rfl (lv_at hl 3 rfl) ?_
        refine lv_if_ne (tgt := 51) hx hb dX11_answers_39 (by decide) (fun hc8 => ?_) (fun hc8 => ?_)
        · replace h := gm_neg hc8 h
          refine lv_iload_n hx hb dX11_answers_51 rfl (lv_at hl 3 rfl) ?_
          refine lv_iconst (v := 1) hx hb dX11_answers_52 (by decide) ?_
          refine lv_icmp_ne (tgt := 65) hx hb dX11_answers_53 (by decide) (fun hc9 => ?_) (fun hc9 => ?_)
          · replace h := gm_neg hc9 h
            refine lv_aload_n hx hb dX11_answers_65 rfl (lv_at hl 0 rfl) ?_
            refine lv_iload_n hx hb dX11_answers_66 rfl (lv_at hl 1 rfl) ?_
            refine lv_iload_n hx hb dX11_answers_67 rfl (lv_at hl 2 rfl) ?_
            obtain ⟨o10, ho10, h⟩ := gm_bind_e h
            refine gm_callV (As := [.int x1, .int x2]) (rest := []) (n := 2) (ci := 11) (q0 := 0) C0 hH (mX11_canSay l dC dI cI q q_tongue q_refused q_fresh q_kept q_isKept q_text q_said q_talk 0 m_size m_at m_start m_token m_value m_faultAt m_allowed m_firstPair m_secondPair m_above m_below m_tongue x1 x2   ho10) gX11_answers_X11_canSay rfl (by decide +kernel) ⟨rfl, rfl, Nat.le_of_ble_eq_true rfl, Nat.le_of_ble_eq_true rfl⟩ gm_T_ok (fun _ => trivial) [0, 2] rfl rfl rfl [0] rfl rfl rfl rfl hl.1 rfl (Nat.le_of_ble_eq_true rfl) dX11_answers_68 ⟨Nat.zero_le _, Nat.zero_le _⟩ (fun H locs hH => ?_)
            have hH : gm_H (dC, dI) A s (wX11_answers cI q q_refused q_tongue q_fresh q_kept q_isKept q_text q_said q_talk 0 m_size m_at m_start m_token m_value m_faultAt m_allowed m_firstPair m_secondPair m_above m_below m_refused m_tongue) H locs := hH
            obtain rfl := Option.some.inj h
            exact gm_iret C0 hH dX11_answers_71
          · replace h := gm_pos hc9 h
            refine lv_aload_n hx hb dX11_answers_56 rfl (lv_at hl 0 rfl) ?_
            refine lv_iload_n hx hb dX11_answers_57 rfl (lv_at hl 1 rfl) ?_
            refine lv_iload_n hx hb dX11_answers_58 rfl (lv_at hl 2 rfl) ?_
            obtain ⟨o11, ho11, h⟩ := gm_bind_e h
            refine gm_callV (As := [.int x1, .int x2]) (rest := []) (n := 2) (ci := 11) (q0 := 0) C0 hH (mX11_answersTo l dC dI cI q q_tongue q_refused q_fresh q_kept q_isKept q_text q_said q_talk 0 m_size m_at m_start m_token m_value m_faultAt m_allowed m_firstPair m_secondPair m_above m_below m_tongue x1 x2   ho11) gX11_answers_X11_answersTo rfl (by decide +kernel) ⟨rfl, rfl, Nat.le_of_ble_eq_true rfl, Nat.le_of_ble_eq_true rfl⟩ gm_T_ok (fun _ => trivial) [0, 2] rfl rfl rfl [0] rfl rfl rfl rfl hl.1 rfl (Nat.le_of_ble_eq_true rfl) dX11_answers_59 ⟨Nat.zero_le _, Nat.zero_le _⟩ (fun H locs hH => ?_)
            have hH : gm_H (dC, dI) A s (wX11_answers cI q q_refused q_tongue q_fresh q_kept q_isKept q_text q_said q_talk 0 m_size m_at m_start m_token m_value m_faultAt m_allowed m_firstPair m_secondPair m_above m_below m_refused m_tongue) H locs := hH
            refine lv_goto (tgt := 71) hx hb dX11_answers_62 (by decide) ?_
            obtain rfl := Option.some.inj h
            exact gm_iret C0 hH dX11_answers_71
        · replace h := gm_pos hc8 h
          refine lv_aload_n hx hb dX11_answers_42 rfl (lv_at hl 0 rfl) ?_
          refine lv_iload_n hx hb dX11_answers_43 rfl (lv_at hl 1 rfl) ?_
          refine lv_iload_n hx hb dX11_answers_44 rfl (lv_at hl 2 rfl) ?_
          obtain ⟨o12, ho12, h⟩ := gm_bind_e h
          refine gm_callV (As := [.int x1, .int x2]) (rest := []) (n := 2) (ci := 11) (q0 := 0) C0 hH (mX11_chimesWith l dC dI cI q q_tongue q_refused q_fresh q_kept q_isKept q_text q_said q_talk 0 m_size m_at m_start m_token m_value m_faultAt m_allowed m_firstPair m_secondPair m_above m_below m_tongue x1 x2   ho12) gX11_answers_X11_chimesWith rfl (by decide +kernel) ⟨rfl, rfl, Nat.le_of_ble_eq_true rfl, Nat.le_of_ble_eq_true rfl⟩ gm_T_ok (fun _ => trivial) [0, 2] rfl rfl rfl [0] rfl rfl rfl rfl hl.1 rfl (Nat.le_of_ble_eq_true rfl) dX11_answers_45 ⟨Nat.zero_le _, Nat.zero_le _⟩ (fun H locs hH => ?_)
          have hH : gm_H (dC, dI) A s (wX11_answers cI q q_refused q_tongue q_fresh q_kept q_isKept q_text q_said q_talk 0 m_size m_at m_start m_token m_value m_faultAt m_allowed m_firstPair m_secondPair m_above m_below m_refused m_tongue) H locs := hH
          refine lv_goto (tgt := 71) hx hb dX11_answers_48 (by decide) ?_
          obtain rfl := Option.some.inj h
          exact gm_iret C0 hH dX11_answers_71
      · replace h := gm_pos hc7 h
        exact tX11_answers_b33 C0  h hH (lv_sub hl [0] rfl)

/-! X11_asks -/
abbrev wX11_asks (cI : ClassId) (q q_refused q_tongue q_fresh q_kept q_isKept q_text q_said q_talk : Nat) (m_thrown : Int32) (m_size : Int32) (m_at : Int32) (m_start : Int32) (m_token : Int32) (m_value : Int64) (m_faultAt : Int32) (m_allowed : Int32) (m_firstPair : Int32) (m_secondPair : Int32) (m_above : Int64) (m_below : Int64) (m_refused : Nat → Int32) (m_tongue : Nat → Int32) : va_W := [(q, .inr (11, [.int m_thrown, .ref q_refused, .ref q_tongue, .ref q_fresh, .ref q_kept, .ref q_isKept, .ref q_text, .int m_size, .int m_at, .int m_start, .int m_token, .long m_value, .int m_faultAt, .ref q_said, .ref q_talk, .int m_allowed, .int m_firstPair, .int m_secondPair, .long m_above, .long m_below])), (q_refused, .inl (cI, 3, .inl m_refused)), (q_tongue, .inl (cI, 73, .inl m_tongue))]
abbrev rX11_asks : Room := { frames := 7, cells := 0, slots := 0, locals := 157 }
def fX11_asks_b25 (N : Nat)  (m_thrown : Int32) (m_refused : Nat → Int32) : Option (Int32 × Int32 × (Nat → Int32)) := gm_bind (fX11_bad N m_refused) (fun o3 => some (o3.1, m_thrown, o3.2))
def fX11_asks_b69 (N : Nat) (r35 : Int32 → Int32 → Option (Int32 × Int32 × (Nat → Int32))) (m_thrown : Int32) (m_refused : Nat → Int32) (m_tongue : Nat → Int32) (x1 : Int32) (x2 : Int32) (x4 : Int32) (k0 : Int32) (k1 : Int32) : Option (Int32 × Int32 × (Nat → Int32)) := gm_let ((k0 ||| k1) : Int32) (fun (v11 : Int32) => (r35 v11 ((x4 + 1))))
def fX11_asks_b35_body (N : Nat)  (m_thrown : Int32) (m_refused : Nat → Int32) (m_tongue : Nat → Int32) (x1 : Int32) (x2 : Int32) (r35 : Int32 → Int32 → Option (Int32 × Int32 × (Nat → Int32))) (x3 : Int32) (x4 : Int32) : Option (Int32 × Int32 × (Nat → Int32)) := gm_chk 0 73 ((if (m_tongue (Int32.toNatClampNeg 0)) ≤ x4 then some (x3, m_thrown, m_refused) else gm_bind (fX11_canSay N m_tongue x1 x4) (fun o8 => gm_bind (fX11_has N o8 x2) (fun o9 => (if o9 = 0 then (fX11_asks_b69 N r35 m_thrown m_refused m_tongue x1 x2 x4 x3 0) else (fX11_asks_b69 N r35 m_thrown m_refused m_tongue x1 x2 x4 x3 (((1 : Int32) <<< (x4 &&& 31)))))))))
def fX11_asks_b35 (N : Nat)  (m_thrown : Int32) (m_refused : Nat → Int32) (m_tongue : Nat → Int32) (x1 : Int32) (x2 : Int32) (x3 : Int32) (x4 : Int32) : Option (Int32 × Int32 × (Nat → Int32)) := gm_fix (fX11_asks_b35_body N  m_thrown m_refused m_tongue x1 x2) (fun _ _ => none) N x3 x4
def fX11_asks (N : Nat) (m_thrown : Int32) (m_refused : Nat → Int32) (m_tongue : Nat → Int32) (x1 : Int32) (x2 : Int32) : Option (Int32 × Int32 × (Nat → Int32)) := gm_bind (fX11_noPerson N m_tongue x1) (fun o1 => (if o1 = 0 then gm_bind (fX11_in N ((Int32.toInt64 x2)) 0 7) (fun o4 => (if o4 = 0 then (fX11_asks_b25 N  0 m_refused) else (fX11_asks_b35 N  0 m_refused m_tongue x1 x2 0 0))) else (fX11_asks_b25 N  0 m_refused)))
set_option maxRecDepth 20000 in
theorem inX11_asks_X11 : ∀ w ∈ u_ws RX11 TX11 20, w ∈ wsX11_asks := fun w h => by
  obtain ⟨k, hk, rfl⟩ := List.mem_map.mp h
  have hk2 := List.mem_range.mp hk
  exact List.mem_of_getElem? (i := 72 + k) (by rcases (show k = 0 ∨ k = 1 ∨ k = 2 ∨ k = 3 ∨ k = 4 ∨ k = 5 ∨ k = 6 ∨ k = 7 ∨ k = 8 ∨ k = 9 ∨ k = 10 ∨ k = 11 ∨ k = 12 ∨ k = 13 ∨ k = 14 ∨ k = 15 ∨ k = 16 ∨ k = 17 ∨ k = 18 ∨ k = 19 by omega) with rfl | rfl | rfl | rfl | rfl | rfl | rfl | rfl | rfl | rfl | rfl | rfl | rfl | rfl | rfl | rfl | rfl | rfl | rfl | rfl <;> rfl)
set_option maxRecDepth 100000 in
set_option maxHeartbeats 4000000 in
theorem tX11_asks_b25 {p : Program} {l : Launch} {e : Env} {s : State} {m : MethodId} {args : Array Value} {below : List Frame} {meth : Method} {c : Code} {A : Nat → Prop} {dC : Nat → ClassId} {dI : Nat → Nat → Nat} {cI : ClassId} {q q_refused q_tongue q_fresh q_kept q_isKept q_text q_said q_talk : Nat} {m_thrown : Int32} {m_size : Int32} {m_at : Int32} {m_start : Int32} {m_token : Int32} {m_value : Int64} {m_faultAt : Int32} {m_allowed : Int32} {m_firstPair : Int32} {m_secondPair : Int32} {m_above : Int64} {m_below : Int64} {m_refused : Nat → Int32} {m_tongue : Nat → Int32} (C0 : gm_C p s m args meth c (dC, dI) [(cI, .int)] A gm_T RX11 cX11_asks 5 (some .int) wsX11_asks) {N : Nat} {out : Int32 × Int32 × (Nat → Int32)}    {H : Heap} {locs : List Loc} {ls : Array Slot} (h : fX11_asks_b25 N  m_thrown m_refused = some out) (hH : gm_H (dC, dI) A s (wX11_asks cI q q_refused q_tongue q_fresh q_kept q_isKept q_text q_said q_talk m_thrown m_size m_at m_start m_token m_value m_faultAt m_allowed m_firstPair m_secondPair m_above m_below m_refused m_tongue) H locs) (hl : lv_has ls 5 [(0, .ref q)]) : W p l e rX11_asks s m args below meth c H locs 0 0 (MQ below (gm_Q (dC, dI) [(cI, .int)] A (some (.int out.1)) (wX11_asks cI q q_refused q_tongue q_fresh q_kept q_isKept q_text q_said q_talk out.2.1 m_size m_at m_start m_token m_value m_faultAt m_allowed m_firstPair m_secondPair m_above m_below out.2.2 m_tongue)) args s 0 0 A) (F0 m 25 ls []) := by
  obtain ⟨hx, hb, hml, hr, hown, hts, hA, hK, hX, hlocks⟩ := id C0
  unfold fX11_asks_b25 at h
  refine lv_aload_n hx hb dX11_asks_25 rfl (lv_at hl 0 rfl) ?_
  obtain ⟨o3, ho3, h⟩ := gm_bind_e h
  refine gm_callV (As := []) (rest := []) (n := 0) (ci := 11) (q0 := 0) C0 hH (mX11_bad l dC dI cI q q_refused q_tongue q_fresh q_kept q_isKept q_text q_said q_talk m_thrown m_size m_at m_start m_token m_value m_faultAt m_allowed m_firstPair m_secondPair m_above m_below m_refused    ho3) gX11_asks_X11_bad rfl (by decide +kernel) ⟨rfl, rfl, Nat.le_of_ble_eq_true rfl, Nat.le_of_ble_eq_true rfl⟩ gm_T_ok (fun _ => trivial) [0, 1] rfl rfl rfl [0] rfl rfl rfl rfl hl.1 rfl (Nat.le_of_ble_eq_true rfl) dX11_asks_26 ⟨Nat.zero_le _, Nat.zero_le _⟩ (fun H locs hH => ?_)
  have hH : gm_H (dC, dI) A s (wX11_asks cI q q_refused q_tongue q_fresh q_kept q_isKept q_text q_said q_talk m_thrown m_size m_at m_start m_token m_value m_faultAt m_allowed m_firstPair m_secondPair m_above m_below o3.2 m_tongue) H locs := hH
  obtain rfl := Option.some.inj h
  exact gm_iret C0 hH dX11_asks_29
set_option maxRecDepth 100000 in
set_option maxHeartbeats 4000000 in
theorem tX11_asks_b69 {p : Program} {l : Launch} {e : Env} {s : State} {m : MethodId} {args : Array Value} {below : List Frame} {meth : Method} {c : Code} {A : Nat → Prop} {dC : Nat → ClassId} {dI : Nat → Nat → Nat} {cI : ClassId} {q q_refused q_tongue q_fresh q_kept q_isKept q_text q_said q_talk : Nat} {m_thrown : Int32} {m_size : Int32} {m_at : Int32} {m_start : Int32} {m_token : Int32} {m_value : Int64} {m_faultAt : Int32} {m_allowed : Int32} {m_firstPair : Int32} {m_secondPair : Int32} {m_above : Int64} {m_below : Int64} {m_refused : Nat → Int32} {m_tongue : Nat → Int32} {x1 : Int32} {x2 : Int32} {x4 : Int32} {k0 : Int32} {k1 : Int32} (C0 : gm_C p s m args meth c (dC, dI) [(cI, .int)] A gm_T RX11 cX11_asks 5 (some .int) wsX11_asks) {N : Nat} {out : Int32 × Int32 × (Nat → Int32)} {r35 : Int32 → Int32 → Option (Int32 × Int32 × (Nat → Int32))} (hr35 : ∀ (x3 : Int32) (x4 : Int32) (H : Heap) (locs : List Loc) (ls : Array Slot), r35 x3 x4 = some out → gm_H (dC, dI) A s (wX11_asks cI q q_refused q_tongue q_fresh q_kept q_isKept q_text q_said q_talk m_thrown m_size m_at m_start m_token m_value m_faultAt m_allowed m_firstPair m_secondPair m_above m_below m_refused m_tongue) H locs → lv_has ls 5 [(0, .ref q), (1, .int x1), (2, .int x2), (3, .int x3), (4, .int x4)] → W p l e rX11_asks s m args below meth c H locs 0 0 (MQ below (gm_Q (dC, dI) [(cI, .int)] A (some (.int out.1)) (wX11_asks cI q q_refused q_tongue q_fresh q_kept q_isKept q_text q_said q_talk out.2.1 m_size m_at m_start m_token m_value m_faultAt m_allowed m_firstPair m_secondPair m_above m_below out.2.2 m_tongue)) args s 0 0 A) (F0 m 35 ls []))   {H : Heap} {locs : List Loc} {ls : Array Slot} (h : fX11_asks_b69 N r35 m_thrown m_refused m_tongue x1 x2 x4 k0 k1 = some out) (hH : gm_H (dC, dI) A s (wX11_asks cI q q_refused q_tongue q_fresh q_kept q_isKept q_text q_said q_talk m_thrown m_size m_at m_start m_token m_value m_faultAt m_allowed m_firstPair m_secondPair m_above m_below m_refused m_tongue) H locs) (hl : lv_has ls 5 [(0, .ref q), (1, .int x1), (2, .int x2), (4, .int x4)]) : W p l e rX11_asks s m args below meth c H locs 0 0 (MQ below (gm_Q (dC, dI) [(cI, .int)] A (some (.int out.1)) (wX11_asks cI q q_refused q_tongue q_fresh q_kept q_isKept q_text q_said q_talk out.2.1 m_size m_at m_start m_token m_value m_faultAt m_allowed m_firstPair m_secondPair m_above m_below out.2.2 m_tongue)) args s 0 0 A) (F0 m 69 ls [.int k1, .int k0]) := by
  obtain ⟨hx, hb, hml, hr, hown, hts, hA, hK, hX, hlocks⟩ := id C0
  unfold fX11_asks_b69 at h
  refine lv_ior hx hb dX11_asks_69 ?_
  refine lv_topi (fun v11 ev11 => ?_)
  replace h := gm_let_e ev11 h
  refine lv_istore_n (lv' := [(3, .int v11), (0, .ref q), (1, .int x1), (2, .int x2), (4, .int x4)]) hx hb dX11_asks_70 rfl hl (by decide) rfl (fun ls hl => ?_)
  refine lv_iinc (v := (x4 + 1)) (lv' := [(4, .int (x4 + 1)), (3, .int v11), (0, .ref q), (1, .int x1), (2, .int x2)]) hx hb dX11_asks_71 hl (k := 4) rfl rfl (by decide) rfl (fun ls hl => ?_)
  refine lv_goto (tgt := 35) hx hb dX11_asks_74 (by decide) ?_
  exact hr35 _ _ _ _ _ h hH (lv_sub hl [2, 3, 4, 1, 0] rfl)
set_option maxRecDepth 100000 in
set_option maxHeartbeats 4000000 in
theorem tX11_asks_b35 {p : Program} {l : Launch} {e : Env} {s : State} {m : MethodId} {args : Array Value} {below : List Frame} {meth : Method} {c : Code} {A : Nat → Prop} {dC : Nat → ClassId} {dI : Nat → Nat → Nat} {cI : ClassId} {q q_refused q_tongue q_fresh q_kept q_isKept q_text q_said q_talk : Nat} {m_thrown : Int32} {m_size : Int32} {m_at : Int32} {m_start : Int32} {m_token : Int32} {m_value : Int64} {m_faultAt : Int32} {m_allowed : Int32} {m_firstPair : Int32} {m_secondPair : Int32} {m_above : Int64} {m_below : Int64} {m_refused : Nat → Int32} {m_tongue : Nat → Int32} {x1 : Int32} {x2 : Int32} (C0 : gm_C p s m args meth c (dC, dI) [(cI, .int)] A gm_T RX11 cX11_asks 5 (some .int) wsX11_asks) {N : Nat} {out : Int32 × Int32 × (Nat → Int32)}   : ∀ (n : Nat), ∀ (x3 : Int32) (x4 : Int32) (H : Heap) (locs : List Loc) (ls : Array Slot), (gm_fix (fX11_asks_b35_body N  m_thrown m_refused m_tongue x1 x2) (fun _ _ => none) n) x3 x4 = some out → gm_H (dC, dI) A s (wX11_asks cI q q_refused q_tongue q_fresh q_kept q_isKept q_text q_said q_talk m_thrown m_size m_at m_start m_token m_value m_faultAt m_allowed m_firstPair m_secondPair m_above m_below m_refused m_tongue) H locs → lv_has ls 5 [(0, .ref q), (1, .int x1), (2, .int x2), (3, .int x3), (4, .int x4)] → W p l e rX11_asks s m args below meth c H locs 0 0 (MQ below (gm_Q (dC, dI) [(cI, .int)] A (some (.int out.1)) (wX11_asks cI q q_refused q_tongue q_fresh q_kept q_isKept q_text q_said q_talk out.2.1 m_size m_at m_start m_token m_value m_faultAt m_allowed m_firstPair m_secondPair m_above m_below out.2.2 m_tongue)) args s 0 0 A) (F0 m 35 ls []) := by
  obtain ⟨hx, hb, hml, hr, hown, hts, hA, hK, hX, hlocks⟩ := id C0
  intro n
  induction n with
  | zero =>
    intro x3 x4 H locs ls h hH hl
    cases h
  | succ n hr35 =>
    intro x3 x4 H locs ls h hH hl
    rw [gm_fix_s] at h
    unfold fX11_asks_b35_body at h
    refine lv_iload hx hb dX11_asks_35 (lv_at hl 4 rfl) ?_
    refine lv_aload_n hx hb dX11_asks_37 rfl (lv_at hl 0 rfl) ?_
    refine gm_get (ci := 11) C0 hH inX11_asks_X11 0 2 3 rfl rfl (by decide) rfl rfl dX11_asks_38 ?_
    refine lv_iconst (v := 0) hx hb dX11_asks_41 (by decide) ?_
    obtain ⟨hi6, h⟩ := gm_chk_e h
    refine gm_iald C0 hH hi6 2 0 rfl rfl dX11_asks_42 ?_
    refine lv_icmp_ge (tgt := 77) hx hb dX11_asks_43 (by decide) (fun hc7 => ?_) (fun hc7 => ?_)
    · replace h := gm_pos hc7 h
      refine lv_iload_n hx hb dX11_asks_77 rfl (lv_at hl 3 rfl) ?_
      obtain rfl := Option.some.inj h
      exact gm_iret C0 hH dX11_asks_78
    · replace h := gm_neg hc7 h
      refine lv_iload_n hx hb dX11_asks_46 rfl (lv_at hl 3 rfl) ?_
      refine lv_aload_n hx hb dX11_asks_47 rfl (lv_at hl 0 rfl) ?_
      refine lv_iload_n hx hb dX11_asks_48 rfl (lv_at hl 1 rfl) ?_
      refine lv_iload hx hb dX11_asks_49 (lv_at hl 4 rfl) ?_
      obtain ⟨o8, ho8, h⟩ := gm_bind_e h
      refine gm_callV (As := [.int x1, .int x4]) (rest := [.int x3]) (n := 2) (ci := 11) (q0 := 0) C0 hH (mX11_canSay l dC dI cI q q_tongue q_refused q_fresh q_kept q_isKept q_text q_said q_talk m_thrown m_size m_at m_start m_token m_value m_faultAt m_allowed m_firstPair m_secondPair m_above m_below m_tongue x1 x4   ho8) gX11_asks_X11_canSay rfl (by decide +kernel) ⟨rfl, rfl, Nat.le_of_ble_eq_true rfl, Nat.le_of_ble_eq_true rfl⟩ gm_T_ok (fun _ => trivial) [0, 2] rfl rfl rfl [0] rfl rfl rfl rfl hl.1 rfl (Nat.le_of_ble_eq_true rfl) dX11_asks_51 ⟨Nat.zero_le _, Nat.zero_le _⟩ (fun H locs hH => ?_)
      have hH : gm_H (dC, dI) A s (wX11_asks cI q q_refused q_tongue q_fresh q_kept q_isKept q_text q_said q_talk m_thrown m_size m_at m_start m_token m_value m_faultAt m_allowed m_firstPair m_secondPair m_above m_below m_refused m_tongue) H locs := hH
      refine lv_iload_n hx hb dX11_asks_54 rfl (lv_at hl 2 rfl) ?_
      obtain ⟨o9, ho9, h⟩ := gm_bind_e h
      refine gm_callS (As := [.int o8, .int x2]) (rest := [.int x3]) (n := 2) C0 hH (mX11_has l dC dI    o8 x2   ho9) gX11_asks_X11_has rfl (by decide +kernel) ⟨rfl, rfl, Nat.le_of_ble_eq_true rfl, Nat.le_of_ble_eq_true rfl⟩ gm_T_ok (fun _ => trivial) [] rfl rfl rfl [] rfl rfl hl.1 rfl (Nat.le_of_ble_eq_true rfl) dX11_asks_55 ⟨Nat.zero_le _, Nat.zero_le _⟩ (fun H locs hH => ?_)
      have hH : gm_H (dC, dI) A s (wX11_asks cI q q_refused q_tongue q_fresh q_kept q_isKept q_text q_said q_talk m_thrown m_size m_at m_start m_token m_value m_faultAt m_allowed m_firstPair m_secondPair m_above m_below m_refused m_tongue) H locs := hH
      refine lv_if_eq (tgt := 68) hx hb dX11_asks_58 (by decide) (fun hc10 => ?_) (fun hc10 => ?_)
      · replace h := gm_pos hc10 h
        refine lv_iconst (v := 0) hx hb dX11_asks_68 (by decide) ?_
        exact tX11_asks_b69 C0 hr35 h hH (lv_sub hl [0, 1, 2, 4] rfl)
      · replace h := gm_neg hc10 h
        refine lv_iconst (v := 1) hx hb dX11_asks_61 (by decide) ?_
        refine lv_iload hx hb dX11_asks_62 (lv_at hl 4 rfl) ?_
        refine lv_ishl hx hb dX11_asks_64 ?_
        refine lv_goto (tgt := 69) hx hb dX11_asks_65 (by decide) ?_
        exact tX11_asks_b69 C0 hr35 h hH (lv_sub hl [0, 1, 2, 4] rfl)
set_option maxRecDepth 100000 in
set_option maxHeartbeats 4000000 in
theorem mX11_asks (l : Launch) (dC : Nat → ClassId) (dI : Nat → Nat → Nat) (cI : ClassId) (q q_refused q_tongue q_fresh q_kept q_isKept q_text q_said q_talk : Nat) (m_thrown : Int32) (m_size : Int32) (m_at : Int32) (m_start : Int32) (m_token : Int32) (m_value : Int64) (m_faultAt : Int32) (m_allowed : Int32) (m_firstPair : Int32) (m_secondPair : Int32) (m_above : Int64) (m_below : Int64) (m_refused : Nat → Int32) (m_tongue : Nat → Int32) (x1 : Int32) (x2 : Int32)  {N : Nat} {out : Int32 × Int32 × (Nat → Int32)} (h : fX11_asks N m_thrown m_refused m_tongue x1 x2 = some out) : gm_Met l yX11_asks wsX11_asks rX11_asks (dC, dI) [(cI, .int)] gm_T [.ref q, .int x1, .int x2] (wX11_asks cI q q_refused q_tongue q_fresh q_kept q_isKept q_text q_said q_talk m_thrown m_size m_at m_start m_token m_value m_faultAt m_allowed m_firstPair m_secondPair m_above m_below m_refused m_tongue) (some (.int out.1)) (wX11_asks cI q q_refused q_tongue q_fresh q_kept q_isKept q_text q_said q_talk out.2.1 m_size m_at m_start m_token m_value m_faultAt m_allowed m_firstPair m_secondPair m_above m_below out.2.2 m_tongue) := by
  refine gm_ofW (cc := cX11_asks) (maxL := 5) (ret := (some .int)) (by decide +kernel) rfl (Nat.le_of_ble_eq_true rfl) ?_
  intro p e s m below meth c A C0 hH ls hl
  generalize ([.ref q, .int x1, .int x2] : List Value).toArray = args at C0 ⊢
  have hl : lv_has ls 5 [(0, .ref q), (1, .int x1), (2, .int x2)] := hl
  generalize s.heap = H at hH ⊢
  generalize ([] : List Loc) = locs at hH ⊢
  obtain ⟨hx, hb, hml, hr, hown, hts, hA, hK, hX, hlocks⟩ := id C0
  unfold fX11_asks at h
  refine lv_aload_n hx hb dX11_asks_0 rfl (lv_at hl 0 rfl) ?_
  refine lv_iconst (v := 0) hx hb dX11_asks_1 (by decide) ?_
  refine gm_putf (ci := 11) C0 hH inX11_asks_X11 tyX11_ok nmX11 0 0 1 rfl rfl (by decide) rfl rfl rfl rfl rfl (Nat.le_of_ble_eq_true rfl) dX11_asks_2 (fun H locs hH => ?_)
  have hH : gm_H (dC, dI) A s (wX11_asks cI q q_refused q_tongue q_fresh q_kept q_isKept q_text q_said q_talk 0 m_size m_at m_start m_token m_value m_faultAt m_allowed m_firstPair m_secondPair m_above m_below m_refused m_tongue) H locs := hH
  refine lv_aload_n hx hb dX11_asks_5 rfl (lv_at hl 0 rfl) ?_
  refine lv_iload_n hx hb dX11_asks_6 rfl (lv_at hl 1 rfl) ?_
  obtain ⟨o1, ho1, h⟩ := gm_bind_e h
  refine gm_callV (As := [.int x1]) (rest := []) (n := 1) (ci := 11) (q0 := 0) C0 hH (mX11_noPerson l dC dI cI q q_tongue q_refused q_fresh q_kept q_isKept q_text q_said q_talk 0 m_size m_at m_start m_token m_value m_faultAt m_allowed m_firstPair m_secondPair m_above m_below m_tongue x1   ho1) gX11_asks_X11_noPerson rfl (by decide +kernel) ⟨rfl, rfl, Nat.le_of_ble_eq_true rfl, Nat.le_of_ble_eq_true rfl⟩ gm_T_ok (fun _ => trivial) [0, 2] rfl rfl rfl [0] rfl rfl rfl rfl hl.1 rfl (Nat.le_of_ble_eq_true rfl) dX11_asks_7 ⟨Nat.zero_le _, Nat.zero_le _⟩ (fun H locs hH => ?_)
  have hH : gm_H (dC, dI) A s (wX11_asks cI q q_refused q_tongue q_fresh q_kept q_isKept q_text q_said q_talk 0 m_size m_at m_start m_token m_value m_faultAt m_allowed m_firstPair m_secondPair m_above m_below m_refused m_tongue) H locs := hH
  refine lv_if_ne (tgt := 25) hx hb dX11_asks_10 (by decide) (fun hc2 => ?_) (fun hc2 => ?_)
  · replace h := gm_neg hc2 h
    exact tX11_asks_b25 C0  h hH (lv_sub hl [0] rfl)
  · replace h := gm_pos hc2 h
    refine lv_iload_n hx hb dX11_asks_13 rfl (lv_at hl 2 rfl) ?_
    refine lv_i2l hx hb dX11_asks_14 rfl ?_
    refine lv_lconst (v := 0) hx hb dX11_asks_15 (by decide) ?_
    refine lv_ldc2 (own := RX11) (v := 7) hx hb hown (gm_at C0 2 rfl) dX11_asks_16 ?_
    obtain ⟨o4, ho4, h⟩ := gm_bind_e h
    refine gm_callS (As := [.long (Int32.toInt64 x2), .long 0, .long 7]) (rest := []) (n := 3) C0 hH (mX11_in l dC dI    ((Int32.toInt64 x2)) 0 7   ho4) gX11_asks_X11_in rfl (by decide +kernel) ⟨rfl, rfl, Nat.le_of_ble_eq_true rfl, Nat.le_of_ble_eq_true rfl⟩ gm_T_ok (fun _ => trivial) [] rfl rfl rfl [] rfl rfl hl.1 rfl (Nat.le_of_ble_eq_true rfl) dX11_asks_19 ⟨Nat.zero_le _, Nat.zero_le _⟩ (fun H locs hH => ?_)
    have hH : gm_H (dC, dI) A s (wX11_asks cI q q_refused q_tongue q_fresh q_kept q_isKept q_text q_said q_talk 0 m_size m_at m_start m_token m_value m_faultAt m_allowed m_firstPair m_secondPair m_above m_below m_refused m_tongue) H locs := hH
    refine lv_if_ne (tgt := 30) hx hb dX11_asks_22 (by decide) (fun hc5 => ?_) (fun hc5 => ?_)
    · replace h := gm_neg hc5 h
      refine lv_iconst (v := 0) hx hb dX11_asks_30 (by decide) ?_
      refine lv_istore_n (lv' := [(3, .int 0), (0, .ref q), (1, .int x1), (2, .int x2)]) hx hb dX11_asks_31 rfl hl (by decide) rfl (fun ls hl => ?_)
      refine lv_iconst (v := 0) hx hb dX11_asks_32 (by decide) ?_
      refine lv_istore (lv' := [(4, .int 0), (3, .int 0), (0, .ref q), (1, .int x1), (2, .int x2)]) hx hb dX11_asks_33 hl (by decide) rfl (fun ls hl => ?_)
      unfold fX11_asks_b35 at h
      exact tX11_asks_b35 C0  _ _ _ _ _ _ h hH (lv_sub hl [2, 3, 4, 1, 0] rfl)
    · replace h := gm_pos hc5 h
      exact tX11_asks_b25 C0  h hH (lv_sub hl [0] rfl)

/-! X11_saidBy -/
abbrev wX11_saidBy (cI : ClassId) (q q_tongue q_said q_refused q_fresh q_kept q_isKept q_text q_talk : Nat) (m_thrown : Int32) (m_size : Int32) (m_at : Int32) (m_start : Int32) (m_token : Int32) (m_value : Int64) (m_faultAt : Int32) (m_allowed : Int32) (m_firstPair : Int32) (m_secondPair : Int32) (m_above : Int64) (m_below : Int64) (m_tongue : Nat → Int32) (m_said : Nat → Int32) : va_W := [(q, .inr (11, [.int m_thrown, .ref q_refused, .ref q_tongue, .ref q_fresh, .ref q_kept, .ref q_isKept, .ref q_text, .int m_size, .int m_at, .int m_start, .int m_token, .long m_value, .int m_faultAt, .ref q_said, .ref q_talk, .int m_allowed, .int m_firstPair, .int m_secondPair, .long m_above, .long m_below])), (q_tongue, .inl (cI, 73, .inl m_tongue)), (q_said, .inl (cI, 10, .inl m_said))]
abbrev rX11_saidBy : Room := { frames := 1, cells := 0, slots := 0, locals := 21 }
def fX11_saidBy_b33 (N : Nat) (r4 : Int32 → Int32 → Option (Int32)) (m_tongue : Nat → Int32) (m_said : Nat → Int32) (x1 : Int32) (x3 : Int32) (k0 : Int32) (k1 : Int32) : Option (Int32) := gm_let ((k0 ||| k1) : Int32) (fun (v5 : Int32) => (r4 v5 ((x3 + 1))))
def fX11_saidBy_b4_body (N : Nat)  (m_tongue : Nat → Int32) (m_said : Nat → Int32) (x1 : Int32) (r4 : Int32 → Int32 → Option (Int32)) (x2 : Int32) (x3 : Int32) : Option (Int32) := gm_chk 0 73 ((if (m_tongue (Int32.toNatClampNeg 0)) ≤ x3 then some (x2) else gm_bind (fX11_has N x1 x3) (fun o3 => (if o3 = 0 then (fX11_saidBy_b33 N r4 m_tongue m_said x1 x3 x2 0) else gm_chk x3 10 ((fX11_saidBy_b33 N r4 m_tongue m_said x1 x3 x2 ((m_said (Int32.toNatClampNeg x3)))))))))
def fX11_saidBy_b4 (N : Nat)  (m_tongue : Nat → Int32) (m_said : Nat → Int32) (x1 : Int32) (x2 : Int32) (x3 : Int32) : Option (Int32) := gm_fix (fX11_saidBy_b4_body N  m_tongue m_said x1) (fun _ _ => none) N x2 x3
def fX11_saidBy (N : Nat) (m_tongue : Nat → Int32) (m_said : Nat → Int32) (x1 : Int32) : Option (Int32) := (fX11_saidBy_b4 N  m_tongue m_said x1 0 0)
set_option maxRecDepth 20000 in
theorem inX11_saidBy_X11 : ∀ w ∈ u_ws RX11 TX11 20, w ∈ wsX11_saidBy := fun w h => by
  obtain ⟨k, hk, rfl⟩ := List.mem_map.mp h
  have hk2 := List.mem_range.mp hk
  exact List.mem_of_getElem? (i := 7 + k) (by rcases (show k = 0 ∨ k = 1 ∨ k = 2 ∨ k = 3 ∨ k = 4 ∨ k = 5 ∨ k = 6 ∨ k = 7 ∨ k = 8 ∨ k = 9 ∨ k = 10 ∨ k = 11 ∨ k = 12 ∨ k = 13 ∨ k = 14 ∨ k = 15 ∨ k = 16 ∨ k = 17 ∨ k = 18 ∨ k = 19 by omega) with rfl | rfl | rfl | rfl | rfl | rfl | rfl | rfl | rfl | rfl | rfl | rfl | rfl | rfl | rfl | rfl | rfl | rfl | rfl | rfl <;> rfl)
set_option maxRecDepth 100000 in
set_option maxHeartbeats 4000000 in
theorem tX11_saidBy_b33 {p : Program} {l : Launch} {e : Env} {s : State} {m : MethodId} {args : Array Value} {below : List Frame} {meth : Method} {c : Code} {A : Nat → Prop} {dC : Nat → ClassId} {dI : Nat → Nat → Nat} {cI : ClassId} {q q_tongue q_said q_refused q_fresh q_kept q_isKept q_text q_talk : Nat} {m_thrown : Int32} {m_size : Int32} {m_at : Int32} {m_start : Int32} {m_token : Int32} {m_value : Int64} {m_faultAt : Int32} {m_allowed : Int32} {m_firstPair : Int32} {m_secondPair : Int32} {m_above : Int64} {m_below : Int64} {m_tongue : Nat → Int32} {m_said : Nat → Int32} {x1 : Int32} {x3 : Int32} {k0 : Int32} {k1 : Int32} (C0 : gm_C p s m args meth c (dC, dI) [(cI, .int)] A gm_T RX11 cX11_saidBy 4 (some .int) wsX11_saidBy) {N : Nat} {out : Int32} {r4 : Int32 → Int32 → Option (Int32)} (hr4 : ∀ (x2 : Int32) (x3 : Int32) (H : Heap) (locs : List Loc) (ls : Array Slot), r4 x2 x3 = some out → gm_H (dC, dI) A s (wX11_saidBy cI q q_tongue q_said q_refused q_fresh q_kept q_isKept q_text q_talk m_thrown m_size m_at m_start m_token m_value m_faultAt m_allowed m_firstPair m_secondPair m_above m_below m_tongue m_said) H locs → lv_has ls 4 [(0, .ref q), (1, .int x1), (2, .int x2), (3, .int x3)] → W p l e rX11_saidBy s m args below meth c H locs 0 0 (MQ below (gm_Q (dC, dI) [(cI, .int)] A (some (.int out)) (wX11_saidBy cI q q_tongue q_said q_refused q_fresh q_kept q_isKept q_text q_talk m_thrown m_size m_at m_start m_token m_value m_faultAt m_allowed m_firstPair m_secondPair m_above m_below m_tongue m_said)) args s 0 0 A) (F0 m 4 ls []))   {H : Heap} {locs : List Loc} {ls : Array Slot} (h : fX11_saidBy_b33 N r4 m_tongue m_said x1 x3 k0 k1 = some out) (hH : gm_H (dC, dI) A s (wX11_saidBy cI q q_tongue q_said q_refused q_fresh q_kept q_isKept q_text q_talk m_thrown m_size m_at m_start m_token m_value m_faultAt m_allowed m_firstPair m_secondPair m_above m_below m_tongue m_said) H locs) (hl : lv_has ls 4 [(0, .ref q), (1, .int x1), (3, .int x3)]) : W p l e rX11_saidBy s m args below meth c H locs 0 0 (MQ below (gm_Q (dC, dI) [(cI, .int)] A (some (.int out)) (wX11_saidBy cI q q_tongue q_said q_refused q_fresh q_kept q_isKept q_text q_talk m_thrown m_size m_at m_start m_token m_value m_faultAt m_allowed m_firstPair m_secondPair m_above m_below m_tongue m_said)) args s 0 0 A) (F0 m 33 ls [.int k1, .int k0]) := by
  obtain ⟨hx, hb, hml, hr, hown, hts, hA, hK, hX, hlocks⟩ := id C0
  unfold fX11_saidBy_b33 at h
  refine lv_ior hx hb dX11_saidBy_33 ?_
  refine lv_topi (fun v5 ev5 => ?_)
  replace h := gm_let_e ev5 h
  refine lv_istore_n (lv' := [(2, .int v5), (0, .ref q), (1, .int x1), (3, .int x3)]) hx hb dX11_saidBy_34 rfl hl (by decide) rfl (fun ls hl => ?_)
  refine lv_iinc (v := (x3 + 1)) (lv' := [(3, .int (x3 + 1)), (2, .int v5), (0, .ref q), (1, .int x1)]) hx hb dX11_saidBy_35 hl (k := 3) rfl rfl (by decide) rfl (fun ls hl => ?_)
  refine lv_goto (tgt := 4) hx hb dX11_saidBy_38 (by decide) ?_
  exact hr4 _ _ _ _ _ h hH (lv_sub hl [2, 3, 1, 0] rfl)
set_option maxRecDepth 100000 in
set_option maxHeartbeats 4000000 in
theorem tX11_saidBy_b4 {p : Program} {l : Launch} {e : Env} {s : State} {m : MethodId} {args : Array Value} {below : List Frame} {meth : Method} {c : Code} {A : Nat → Prop} {dC : Nat → ClassId} {dI : Nat → Nat → Nat} {cI : ClassId} {q q_tongue q_said q_refused q_fresh q_kept q_isKept q_text q_talk : Nat} {m_thrown : Int32} {m_size : Int32} {m_at : Int32} {m_start : Int32} {m_token : Int32} {m_value : Int64} {m_faultAt : Int32} {m_allowed : Int32} {m_firstPair : Int32} {m_secondPair : Int32} {m_above : Int64} {m_below : Int64} {m_tongue : Nat → Int32} {m_said : Nat → Int32} {x1 : Int32} (C0 : gm_C p s m args meth c (dC, dI) [(cI, .int)] A gm_T RX11 cX11_saidBy 4 (some .int) wsX11_saidBy) {N : Nat} {out : Int32}   : ∀ (n : Nat), ∀ (x2 : Int32) (x3 : Int32) (H : Heap) (locs : List Loc) (ls : Array Slot), (gm_fix (fX11_saidBy_b4_body N  m_tongue m_said x1) (fun _ _ => none) n) x2 x3 = some out → gm_H (dC, dI) A s (wX11_saidBy cI q q_tongue q_said q_refused q_fresh q_kept q_isKept q_text q_talk m_thrown m_size m_at m_start m_token m_value m_faultAt m_allowed m_firstPair m_secondPair m_above m_below m_tongue m_said) H locs → lv_has ls 4 [(0, .ref q), (1, .int x1), (2, .int x2), (3, .int x3)] → W p l e rX11_saidBy s m args below meth c H locs 0 0 (MQ below (gm_Q (dC, dI) [(cI, .int)] A (some (.int out)) (wX11_saidBy cI q q_tongue q_said q_refused q_fresh q_kept q_isKept q_text q_talk m_thrown m_size m_at m_start m_token m_value m_faultAt m_allowed m_firstPair m_secondPair m_above m_below m_tongue m_said)) args s 0 0 A) (F0 m 4 ls []) := by
  obtain ⟨hx, hb, hml, hr, hown, hts, hA, hK, hX, hlocks⟩ := id C0
  intro n
  induction n with
  | zero =>
    intro x2 x3 H locs ls h hH hl
    cases h
  | succ n hr4 =>
    intro x2 x3 H locs ls h hH hl
    rw [gm_fix_s] at h
    unfold fX11_saidBy_b4_body at h
    refine lv_iload_n hx hb dX11_saidBy_4 rfl (lv_at hl 3 rfl) ?_
    refine lv_aload_n hx hb dX11_saidBy_5 rfl (lv_at hl 0 rfl) ?_
    refine gm_get (ci := 11) C0 hH inX11_saidBy_X11 0 2 1 rfl rfl (by decide) rfl rfl dX11_saidBy_6 ?_
    refine lv_iconst (v := 0) hx hb dX11_saidBy_9 (by decide) ?_
    obtain ⟨hi1, h⟩ := gm_chk_e h
    refine gm_iald C0 hH hi1 1 0 rfl rfl dX11_saidBy_10 ?_
    refine lv_icmp_ge (tgt := 41) hx hb dX11_saidBy_11 (by decide) (fun hc2 => ?_) (fun hc2 => ?_)
    · replace h := gm_pos hc2 h
      refine lv_iload_n hx hb dX11_saidBy_41 rfl (lv_at hl 2 rfl) ?_
      obtain rfl := Option.some.inj h
      exact gm_iret C0 hH dX11_saidBy_42
    · replace h := gm_neg hc2 h
      refine lv_iload_n hx hb dX11_saidBy_14 rfl (lv_at hl 2 rfl) ?_
      refine lv_iload_n hx hb dX11_saidBy_15 rfl (lv_at hl 1 rfl) ?_
      refine lv_iload_n hx hb dX11_saidBy_16 rfl (lv_at hl 3 rfl) ?_
      obtain ⟨o3, ho3, h⟩ := gm_bind_e h
      refine gm_callS (As := [.int x1, .int x3]) (rest := [.int x2]) (n := 2) C0 hH (mX11_has l dC dI    x1 x3   ho3) gX11_saidBy_X11_has rfl (by decide +kernel) ⟨rfl, rfl, Nat.le_of_ble_eq_true rfl, Nat.le_of_ble_eq_true rfl⟩ gm_T_ok (fun _ => trivial) [] rfl rfl rfl [] rfl rfl hl.1 rfl (Nat.le_of_ble_eq_true rfl) dX11_saidBy_17 ⟨Nat.zero_le _, Nat.zero_le _⟩ (fun H locs hH => ?_)
      have hH : gm_H (dC, dI) A s (wX11_saidBy cI q q_tongue q_said q_refused q_fresh q_kept q_isKept q_text q_talk m_thrown m_size m_at m_start m_token m_value m_faultAt m_allowed m_firstPair m_secondPair m_above m_below m_tongue m_said) H locs := hH
      refine lv_if_eq (tgt := 32) hx hb dX11_saidBy_20 (by decide) (fun hc4 => ?_) (fun hc4 => ?_)
      · replace h := gm_pos hc4 h
        refine lv_iconst (v := 0) hx hb dX11_saidBy_32 (by decide) ?_
        exact tX11_saidBy_b33 C0 hr4 h hH (lv_sub hl [0, 1, 3] rfl)
      · replace h := gm_neg hc4 h
        refine lv_aload_n hx hb dX11_saidBy_23 rfl (lv_at hl 0 rfl) ?_
        refine gm_get (ci := 11) C0 hH inX11_saidBy_X11 0 13 2 rfl rfl (by decide) rfl rfl dX11_saidBy_24 ?_
        refine lv_iload_n hx hb dX11_saidBy_27 rfl (lv_at hl 3 rfl) ?_
        obtain ⟨hi6, h⟩ := gm_chk_e h
        refine gm_iald C0 hH hi6 2 0 rfl rfl dX11_saidBy_28 ?_
        refine lv_goto (tgt := 33) hx hb dX11_saidBy_29 (by decide) ?_
        exact tX11_saidBy_b33 C0 hr4 h hH (lv_sub hl [0, 1, 3] rfl)
set_option maxRecDepth 100000 in
set_option maxHeartbeats 4000000 in
theorem mX11_saidBy (l : Launch) (dC : Nat → ClassId) (dI : Nat → Nat → Nat) (cI : ClassId) (q q_tongue q_said q_refused q_fresh q_kept q_isKept q_text q_talk : Nat) (m_thrown : Int32) (m_size : Int32) (m_at : Int32) (m_start : Int32) (m_token : Int32) (m_value : Int64) (m_faultAt : Int32) (m_allowed : Int32) (m_firstPair : Int32) (m_secondPair : Int32) (m_above : Int64) (m_below : Int64) (m_tongue : Nat → Int32) (m_said : Nat → Int32) (x1 : Int32)  {N : Nat} {out : Int32} (h : fX11_saidBy N m_tongue m_said x1 = some out) : gm_Met l yX11_saidBy wsX11_saidBy rX11_saidBy (dC, dI) [(cI, .int)] gm_T [.ref q, .int x1] (wX11_saidBy cI q q_tongue q_said q_refused q_fresh q_kept q_isKept q_text q_talk m_thrown m_size m_at m_start m_token m_value m_faultAt m_allowed m_firstPair m_secondPair m_above m_below m_tongue m_said) (some (.int out)) (wX11_saidBy cI q q_tongue q_said q_refused q_fresh q_kept q_isKept q_text q_talk m_thrown m_size m_at m_start m_token m_value m_faultAt m_allowed m_firstPair m_secondPair m_above m_below m_tongue m_said) := by
  refine gm_ofW (cc := cX11_saidBy) (maxL := 4) (ret := (some .int)) (by decide +kernel) rfl (Nat.le_of_ble_eq_true rfl) ?_
  intro p e s m below meth c A C0 hH ls hl
  generalize ([.ref q, .int x1] : List Value).toArray = args at C0 ⊢
  have hl : lv_has ls 4 [(0, .ref q), (1, .int x1)] := hl
  generalize s.heap = H at hH ⊢
  generalize ([] : List Loc) = locs at hH ⊢
  obtain ⟨hx, hb, hml, hr, hown, hts, hA, hK, hX, hlocks⟩ := id C0
  unfold fX11_saidBy at h
  refine lv_iconst (v := 0) hx hb dX11_saidBy_0 (by decide) ?_
  refine lv_istore_n (lv' := [(2, .int 0), (0, .ref q), (1, .int x1)]) hx hb dX11_saidBy_1 rfl hl (by decide) rfl (fun ls hl => ?_)
  refine lv_iconst (v := 0) hx hb dX11_saidBy_2 (by decide) ?_
  refine lv_istore_n (lv' := [(3, .int 0), (2, .int 0), (0, .ref q), (1, .int x1)]) hx hb dX11_saidBy_3 rfl hl (by decide) rfl (fun ls hl => ?_)
  unfold fX11_saidBy_b4 at h
  exact tX11_saidBy_b4 C0  _ _ _ _ _ _ h hH (lv_sub hl [2, 3, 1, 0] rfl)

/-! X11_fewest -/
abbrev wX11_fewest (cI : ClassId) (q q_refused q_tongue q_said q_fresh q_kept q_isKept q_text q_talk : Nat) (m_thrown : Int32) (m_size : Int32) (m_at : Int32) (m_start : Int32) (m_token : Int32) (m_value : Int64) (m_faultAt : Int32) (m_allowed : Int32) (m_firstPair : Int32) (m_secondPair : Int32) (m_above : Int64) (m_below : Int64) (m_refused : Nat → Int32) (m_tongue : Nat → Int32) (m_said : Nat → Int32) : va_W := [(q, .inr (11, [.int m_thrown, .ref q_refused, .ref q_tongue, .ref q_fresh, .ref q_kept, .ref q_isKept, .ref q_text, .int m_size, .int m_at, .int m_start, .int m_token, .long m_value, .int m_faultAt, .ref q_said, .ref q_talk, .int m_allowed, .int m_firstPair, .int m_secondPair, .long m_above, .long m_below])), (q_refused, .inl (cI, 3, .inl m_refused)), (q_tongue, .inl (cI, 73, .inl m_tongue)), (q_said, .inl (cI, 10, .inl m_said))]
abbrev rX11_fewest : Room := { frames := 7, cells := 0, slots := 0, locals := 157 }
def fX11_fewest_b20 (N : Nat)  (m_thrown : Int32) (m_refused : Nat → Int32) (m_said : Nat → Int32) : Option (Int32 × Int32 × (Nat → Int32) × (Nat → Int32)) := gm_bind (fX11_bad N m_refused) (fun o3 => some (o3.1, m_thrown, o3.2, m_said))
def fX11_fewest_b121 (N : Nat) (r60 : Int32 → Int32 → Option (Int32 × Int32 × (Nat → Int32) × (Nat → Int32))) (m_thrown : Int32) (m_refused : Nat → Int32) (m_tongue : Nat → Int32) (m_said : Nat → Int32) (x2 : Int32) (x4 : Int32) (k0 : Int32) : Option (Int32 × Int32 × (Nat → Int32) × (Nat → Int32)) := (r60 k0 ((x4 + 1)))
def fX11_fewest_b120 (N : Nat) (r60 : Int32 → Int32 → Option (Int32 × Int32 × (Nat → Int32) × (Nat → Int32))) (m_thrown : Int32) (m_refused : Nat → Int32) (m_tongue : Nat → Int32) (m_said : Nat → Int32) (x2 : Int32) (x3 : Int32) (x4 : Int32) : Option (Int32 × Int32 × (Nat → Int32) × (Nat → Int32)) := (fX11_fewest_b121 N r60 m_thrown m_refused m_tongue m_said x2 x4 x3)
def fX11_fewest_b115 (N : Nat) (r60 : Int32 → Int32 → Option (Int32 × Int32 × (Nat → Int32) × (Nat → Int32))) (m_thrown : Int32) (m_refused : Nat → Int32) (m_tongue : Nat → Int32) (m_said : Nat → Int32) (x2 : Int32) (x4 : Int32) : Option (Int32 × Int32 × (Nat → Int32) × (Nat → Int32)) := (fX11_fewest_b121 N r60 m_thrown m_refused m_tongue m_said x2 x4 x4)
def fX11_fewest_b91 (N : Nat) (r60 : Int32 → Int32 → Option (Int32 × Int32 × (Nat → Int32) × (Nat → Int32))) (m_thrown : Int32) (m_refused : Nat → Int32) (m_tongue : Nat → Int32) (m_said : Nat → Int32) (x2 : Int32) (x3 : Int32) (x4 : Int32) (k0 : Int32) : Option (Int32 × Int32 × (Nat → Int32) × (Nat → Int32)) := (if k0 = 0 then (fX11_fewest_b120 N r60 m_thrown m_refused m_tongue m_said x2 x3 x4) else (if x3 = (-1) then (fX11_fewest_b115 N r60 m_thrown m_refused m_tongue m_said x2 x4) else gm_bind (fX11_bits N x4) (fun o14 => gm_bind (fX11_bits N x3) (fun o15 => (if o15 ≤ o14 then (fX11_fewest_b120 N r60 m_thrown m_refused m_tongue m_said x2 x3 x4) else (fX11_fewest_b115 N r60 m_thrown m_refused m_tongue m_said x2 x4))))))
def fX11_fewest_b60_body (N : Nat)  (m_thrown : Int32) (m_refused : Nat → Int32) (m_tongue : Nat → Int32) (m_said : Nat → Int32) (x2 : Int32) (r60 : Int32 → Int32 → Option (Int32 × Int32 × (Nat → Int32) × (Nat → Int32))) (x3 : Int32) (x4 : Int32) : Option (Int32 × Int32 × (Nat → Int32) × (Nat → Int32)) := gm_chk 0 73 ((if ((1 : Int32) <<< ((m_tongue (Int32.toNatClampNeg 0)) &&& 31)) ≤ x4 then some (x3, m_thrown, m_refused, m_said) else gm_bind (fX11_saidBy N m_tongue m_said x4) (fun o10 => (if (x2 &&& (o10 ^^^ (-1))) = 0 then (fX11_fewest_b91 N r60 m_thrown m_refused m_tongue m_said x2 x3 x4 1) else (fX11_fewest_b91 N r60 m_thrown m_refused m_tongue m_said x2 x3 x4 0)))))
def fX11_fewest_b60 (N : Nat)  (m_thrown : Int32) (m_refused : Nat → Int32) (m_tongue : Nat → Int32) (m_said : Nat → Int32) (x2 : Int32) (x3 : Int32) (x4 : Int32) : Option (Int32 × Int32 × (Nat → Int32) × (Nat → Int32)) := gm_fix (fX11_fewest_b60_body N  m_thrown m_refused m_tongue m_said x2) (fun _ _ => none) N x3 x4
def fX11_fewest_b55 (N : Nat)  (m_thrown : Int32) (m_refused : Nat → Int32) (m_tongue : Nat → Int32) (m_said : Nat → Int32) (x2 : Int32) : Option (Int32 × Int32 × (Nat → Int32) × (Nat → Int32)) := (fX11_fewest_b60 N  m_thrown m_refused m_tongue m_said x2 ((-1)) 0)
def fX11_fewest_b27_body (N : Nat)  (m_thrown : Int32) (m_refused : Nat → Int32) (m_tongue : Nat → Int32) (x1 : Int32) (x2 : Int32) (r27 : (Nat → Int32) → Int32 → Option (Int32 × Int32 × (Nat → Int32) × (Nat → Int32))) (m_said : Nat → Int32) (x3 : Int32) : Option (Int32 × Int32 × (Nat → Int32) × (Nat → Int32)) := gm_chk 0 73 ((if (m_tongue (Int32.toNatClampNeg 0)) ≤ x3 then (fX11_fewest_b55 N  m_thrown m_refused m_tongue m_said x2) else gm_bind (fX11_canSay N m_tongue x1 x3) (fun o17 => gm_chk x3 10 ((r27 (upd m_said (Int32.toNatClampNeg x3) o17) ((x3 + 1)))))))
def fX11_fewest_b27 (N : Nat)  (m_thrown : Int32) (m_refused : Nat → Int32) (m_tongue : Nat → Int32) (x1 : Int32) (x2 : Int32) (m_said : Nat → Int32) (x3 : Int32) : Option (Int32 × Int32 × (Nat → Int32) × (Nat → Int32)) := gm_fix (fX11_fewest_b27_body N  m_thrown m_refused m_tongue x1 x2) (fun _ _ => none) N m_said x3
def fX11_fewest (N : Nat) (m_thrown : Int32) (m_refused : Nat → Int32) (m_tongue : Nat → Int32) (m_said : Nat → Int32) (x1 : Int32) (x2 : Int32) : Option (Int32 × Int32 × (Nat → Int32) × (Nat → Int32)) := gm_bind (fX11_noPerson N m_tongue x1) (fun o1 => (if o1 = 0 then gm_bind (fX11_areMeanings N x2) (fun o4 => (if o4 = 0 then (fX11_fewest_b20 N  0 m_refused m_said) else (fX11_fewest_b27 N  0 m_refused m_tongue x1 x2 m_said 0))) else (fX11_fewest_b20 N  0 m_refused m_said)))
set_option maxRecDepth 20000 in
theorem inX11_fewest_X11 : ∀ w ∈ u_ws RX11 TX11 20, w ∈ wsX11_fewest := fun w h => by
  obtain ⟨k, hk, rfl⟩ := List.mem_map.mp h
  have hk2 := List.mem_range.mp hk
  exact List.mem_of_getElem? (i := 83 + k) (by rcases (show k = 0 ∨ k = 1 ∨ k = 2 ∨ k = 3 ∨ k = 4 ∨ k = 5 ∨ k = 6 ∨ k = 7 ∨ k = 8 ∨ k = 9 ∨ k = 10 ∨ k = 11 ∨ k = 12 ∨ k = 13 ∨ k = 14 ∨ k = 15 ∨ k = 16 ∨ k = 17 ∨ k = 18 ∨ k = 19 by omega) with rfl | rfl | rfl | rfl | rfl | rfl | rfl | rfl | rfl | rfl | rfl | rfl | rfl | rfl | rfl | rfl | rfl | rfl | rfl | rfl <;> rfl)
set_option maxRecDepth 100000 in
set_option maxHeartbeats 4000000 in
theorem tX11_fewest_b20 {p : Program} {l : Launch} {e : Env} {s : State} {m : MethodId} {args : Array Value} {below : List Frame} {meth : Method} {c : Code} {A : Nat → Prop} {dC : Nat → ClassId} {dI : Nat → Nat → Nat} {cI : ClassId} {q q_refused q_tongue q_said q_fresh q_kept q_isKept q_text q_talk : Nat} {m_thrown : Int32} {m_size : Int32} {m_at : Int32} {m_start : Int32} {m_token : Int32} {m_value : Int64} {m_faultAt : Int32} {m_allowed : Int32} {m_firstPair : Int32} {m_secondPair : Int32} {m_above : Int64} {m_below : Int64} {m_refused : Nat → Int32} {m_tongue : Nat → Int32} {m_said : Nat → Int32} (C0 : gm_C p s m args meth c (dC, dI) [(cI, .int)] A gm_T RX11 cX11_fewest 6 (some .int) wsX11_fewest) {N : Nat} {out : Int32 × Int32 × (Nat → Int32) × (Nat → Int32)}    {H : Heap} {locs : List Loc} {ls : Array Slot} (h : fX11_fewest_b20 N  m_thrown m_refused m_said = some out) (hH : gm_H (dC, dI) A s (wX11_fewest cI q q_refused q_tongue q_said q_fresh q_kept q_isKept q_text q_talk m_thrown m_size m_at m_start m_token m_value m_faultAt m_allowed m_firstPair m_secondPair m_above m_below m_refused m_tongue m_said) H locs) (hl : lv_has ls 6 [(0, .ref q)]) : W p l e rX11_fewest s m args below meth c H locs 0 0 (MQ below (gm_Q (dC, dI) [(cI, .int)] A (some (.int out.1)) (wX11_fewest cI q q_refused q_tongue q_said q_fresh q_kept q_isKept q_text q_talk out.2.1 m_size m_at m_start m_token m_value m_faultAt m_allowed m_firstPair m_secondPair m_above m_below out.2.2.1 m_tongue out.2.2.2)) args s 0 0 A) (F0 m 20 ls []) := by
  obtain ⟨hx, hb, hml, hr, hown, hts, hA, hK, hX, hlocks⟩ := id C0
  unfold fX11_fewest_b20 at h
  refine lv_aload_n hx hb dX11_fewest_20 rfl (lv_at hl 0 rfl) ?_
  obtain ⟨o3, ho3, h⟩ := gm_bind_e h
  refine gm_callV (As := []) (rest := []) (n := 0) (ci := 11) (q0 := 0) C0 hH (mX11_bad l dC dI cI q q_refused q_tongue q_fresh q_kept q_isKept q_text q_said q_talk m_thrown m_size m_at m_start m_token m_value m_faultAt m_allowed m_firstPair m_secondPair m_above m_below m_refused    ho3) gX11_fewest_X11_bad rfl (by decide +kernel) ⟨rfl, rfl, Nat.le_of_ble_eq_true rfl, Nat.le_of_ble_eq_true rfl⟩ gm_T_ok (fun _ => trivial) [0, 1] rfl rfl rfl [0] rfl rfl rfl rfl hl.1 rfl (Nat.le_of_ble_eq_true rfl) dX11_fewest_21 ⟨Nat.zero_le _, Nat.zero_le _⟩ (fun H locs hH => ?_)
  have hH : gm_H (dC, dI) A s (wX11_fewest cI q q_refused q_tongue q_said q_fresh q_kept q_isKept q_text q_talk m_thrown m_size m_at m_start m_token m_value m_faultAt m_allowed m_firstPair m_secondPair m_above m_below o3.2 m_tongue m_said) H locs := hH
  obtain rfl := Option.some.inj h
  exact gm_iret C0 hH dX11_fewest_24
set_option maxRecDepth 100000 in
set_option maxHeartbeats 4000000 in
theorem tX11_fewest_b121 {p : Program} {l : Launch} {e : Env} {s : State} {m : MethodId} {args : Array Value} {below : List Frame} {meth : Method} {c : Code} {A : Nat → Prop} {dC : Nat → ClassId} {dI : Nat → Nat → Nat} {cI : ClassId} {q q_refused q_tongue q_said q_fresh q_kept q_isKept q_text q_talk : Nat} {m_thrown : Int32} {m_size : Int32} {m_at : Int32} {m_start : Int32} {m_token : Int32} {m_value : Int64} {m_faultAt : Int32} {m_allowed : Int32} {m_firstPair : Int32} {m_secondPair : Int32} {m_above : Int64} {m_below : Int64} {m_refused : Nat → Int32} {m_tongue : Nat → Int32} {m_said : Nat → Int32} {x2 : Int32} {x4 : Int32} {k0 : Int32} (C0 : gm_C p s m args meth c (dC, dI) [(cI, .int)] A gm_T RX11 cX11_fewest 6 (some .int) wsX11_fewest) {N : Nat} {out : Int32 × Int32 × (Nat → Int32) × (Nat → Int32)} {r60 : Int32 → Int32 → Option (Int32 × Int32 × (Nat → Int32) × (Nat → Int32))} (hr60 : ∀ (x3 : Int32) (x4 : Int32) (H : Heap) (locs : List Loc) (ls : Array Slot), r60 x3 x4 = some out → gm_H (dC, dI) A s (wX11_fewest cI q q_refused q_tongue q_said q_fresh q_kept q_isKept q_text q_talk m_thrown m_size m_at m_start m_token m_value m_faultAt m_allowed m_firstPair m_secondPair m_above m_below m_refused m_tongue m_said) H locs → lv_has ls 6 [(0, .ref q), (2, .int x2), (3, .int x3), (4, .int x4)] → W p l e rX11_fewest s m args below meth c H locs 0 0 (MQ below (gm_Q (dC, dI) [(cI, .int)] A (some (.int out.1)) (wX11_fewest cI q q_refused q_tongue q_said q_fresh q_kept q_isKept q_text q_talk out.2.1 m_size m_at m_start m_token m_value m_faultAt m_allowed m_firstPair m_secondPair m_above m_below out.2.2.1 m_tongue out.2.2.2)) args s 0 0 A) (F0 m 60 ls []))   {H : Heap} {locs : List Loc} {ls : Array Slot} (h : fX11_fewest_b121 N r60 m_thrown m_refused m_tongue m_said x2 x4 k0 = some out) (hH : gm_H (dC, dI) A s (wX11_fewest cI q q_refused q_tongue q_said q_fresh q_kept q_isKept q_text q_talk m_thrown m_size m_at m_start m_token m_value m_faultAt m_allowed m_firstPair m_secondPair m_above m_below m_refused m_tongue m_said) H locs) (hl : lv_has ls 6 [(0, .ref q), (2, .int x2), (4, .int x4)]) : W p l e rX11_fewest s m args below meth c H locs 0 0 (MQ below (gm_Q (dC, dI) [(cI, .int)] A (some (.int out.1)) (wX11_fewest cI q q_refused q_tongue q_said q_fresh q_kept q_isKept q_text q_talk out.2.1 m_size m_at m_start m_token m_value m_faultAt m_allowed m_firstPair m_secondPair m_above m_below out.2.2.1 m_tongue out.2.2.2)) args s 0 0 A) (F0 m 121 ls [.int k0]) := by
  obtain ⟨hx, hb, hml, hr, hown, hts, hA, hK, hX, hlocks⟩ := id C0
  unfold fX11_fewest_b121 at h
  refine lv_istore_n (lv' := [(3, .int k0), (0, .ref q), (2, .int x2), (4, .int x4)]) hx hb dX11_fewest_121 rfl hl (by decide) rfl (fun ls hl => ?_)
  refine lv_iinc (v := (x4 + 1)) (lv' := [(4, .int (x4 + 1)), (3, .int k0), (0, .ref q), (2, .int x2)]) hx hb dX11_fewest_122 hl (k := 3) rfl rfl (by decide) rfl (fun ls hl => ?_)
  refine lv_goto (tgt := 60) hx hb dX11_fewest_125 (by decide) ?_
  exact hr60 _ _ _ _ _ h hH (lv_sub hl [2, 3, 1, 0] rfl)
set_option maxRecDepth 100000 in
set_option maxHeartbeats 4000000 in
theorem tX11_fewest_b120 {p : Program} {l : Launch} {e : Env} {s : State} {m : MethodId} {args : Array Value} {below : List Frame} {meth : Method} {c : Code} {A : Nat → Prop} {dC : Nat → ClassId} {dI : Nat → Nat → Nat} {cI : ClassId} {q q_refused q_tongue q_said q_fresh q_kept q_isKept q_text q_talk : Nat} {m_thrown : Int32} {m_size : Int32} {m_at : Int32} {m_start : Int32} {m_token : Int32} {m_value : Int64} {m_faultAt : Int32} {m_allowed : Int32} {m_firstPair : Int32} {m_secondPair : Int32} {m_above : Int64} {m_below : Int64} {m_refused : Nat → Int32} {m_tongue : Nat → Int32} {m_said : Nat → Int32} {x2 : Int32} {x3 : Int32} {x4 : Int32} (C0 : gm_C p s m args meth c (dC, dI) [(cI, .int)] A gm_T RX11 cX11_fewest 6 (some .int) wsX11_fewest) {N : Nat} {out : Int32 × Int32 × (Nat → Int32) × (Nat → Int32)} {r60 : Int32 → Int32 → Option (Int32 × Int32 × (Nat → Int32) × (Nat → Int32))} (hr60 : ∀ (x3 : Int32) (x4 : Int32) (H : Heap) (locs : List Loc) (ls : Array Slot), r60 x3 x4 = some out → gm_H (dC, dI) A s (wX11_fewest cI q q_refused q_tongue q_said q_fresh q_kept q_isKept q_text q_talk m_thrown m_size m_at m_start m_token m_value m_faultAt m_allowed m_firstPair m_secondPair m_above m_below m_refused m_tongue m_said) H locs → lv_has ls 6 [(0, .ref q), (2, .int x2), (3, .int x3), (4, .int x4)] → W p l e rX11_fewest s m args below meth c H locs 0 0 (MQ below (gm_Q (dC, dI) [(cI, .int)] A (some (.int out.1)) (wX11_fewest cI q q_refused q_tongue q_said q_fresh q_kept q_isKept q_text q_talk out.2.1 m_size m_at m_start m_token m_value m_faultAt m_allowed m_firstPair m_secondPair m_above m_below out.2.2.1 m_tongue out.2.2.2)) args s 0 0 A) (F0 m 60 ls []))   {H : Heap} {locs : List Loc} {ls : Array Slot} (h : fX11_fewest_b120 N r60 m_thrown m_refused m_tongue m_said x2 x3 x4 = some out) (hH : gm_H (dC, dI) A s (wX11_fewest cI q q_refused q_tongue q_said q_fresh q_kept q_isKept q_text q_talk m_thrown m_size m_at m_start m_token m_value m_faultAt m_allowed m_firstPair m_secondPair m_above m_below m_refused m_tongue m_said) H locs) (hl : lv_has ls 6 [(0, .ref q), (2, .int x2), (3, .int x3), (4, .int x4)]) : W p l e rX11_fewest s m args below meth c H locs 0 0 (MQ below (gm_Q (dC, dI) [(cI, .int)] A (some (.int out.1)) (wX11_fewest cI q q_refused q_tongue q_said q_fresh q_kept q_isKept q_text q_talk out.2.1 m_size m_at m_start m_token m_value m_faultAt m_allowed m_firstPair m_secondPair m_above m_below out.2.2.1 m_tongue out.2.2.2)) args s 0 0 A) (F0 m 120 ls []) := by
  obtain ⟨hx, hb, hml, hr, hown, hts, hA, hK, hX, hlocks⟩ := id C0
  unfold fX11_fewest_b120 at h
  refine lv_iload_n hx hb dX11_fewest_120 rfl (lv_at hl 2 rfl) ?_
  exact tX11_fewest_b121 C0 hr60 h hH (lv_sub hl [0, 1, 3] rfl)
set_option maxRecDepth 100000 in
set_option maxHeartbeats 4000000 in
theorem tX11_fewest_b115 {p : Program} {l : Launch} {e : Env} {s : State} {m : MethodId} {args : Array Value} {below : List Frame} {meth : Method} {c : Code} {A : Nat → Prop} {dC : Nat → ClassId} {dI : Nat → Nat → Nat} {cI : ClassId} {q q_refused q_tongue q_said q_fresh q_kept q_isKept q_text q_talk : Nat} {m_thrown : Int32} {m_size : Int32} {m_at : Int32} {m_start : Int32} {m_token : Int32} {m_value : Int64} {m_faultAt : Int32} {m_allowed : Int32} {m_firstPair : Int32} {m_secondPair : Int32} {m_above : Int64} {m_below : Int64} {m_refused : Nat → Int32} {m_tongue : Nat → Int32} {m_said : Nat → Int32} {x2 : Int32} {x4 : Int32} (C0 : gm_C p s m args meth c (dC, dI) [(cI, .int)] A gm_T RX11 cX11_fewest 6 (some .int) wsX11_fewest) {N : Nat} {out : Int32 × Int32 × (Nat → Int32) × (Nat → Int32)} {r60 : Int32 → Int32 → Option (Int32 × Int32 × (Nat → Int32) × (Nat → Int32))} (hr60 : ∀ (x3 : Int32) (x4 : Int32) (H : Heap) (locs : List Loc) (ls : Array Slot), r60 x3 x4 = some out → gm_H (dC, dI) A s (wX11_fewest cI q q_refused q_tongue q_said q_fresh q_kept q_isKept q_text q_talk m_thrown m_size m_at m_start m_token m_value m_faultAt m_allowed m_firstPair m_secondPair m_above m_below m_refused m_tongue m_said) H locs → lv_has ls 6 [(0, .ref q), (2, .int x2), (3, .int x3), (4, .int x4)] → W p l e rX11_fewest s m args below meth c H locs 0 0 (MQ below (gm_Q (dC, dI) [(cI, .int)] A (some (.int out.1)) (wX11_fewest cI q q_refused q_tongue q_said q_fresh q_kept q_isKept q_text q_talk out.2.1 m_size m_at m_start m_token m_value m_faultAt m_allowed m_firstPair m_secondPair m_above m_below out.2.2.1 m_tongue out.2.2.2)) args s 0 0 A) (F0 m 60 ls []))   {H : Heap} {locs : List Loc} {ls : Array Slot} (h : fX11_fewest_b115 N r60 m_thrown m_refused m_tongue m_said x2 x4 = some out) (hH : gm_H (dC, dI) A s (wX11_fewest cI q q_refused q_tongue q_said q_fresh q_kept q_isKept q_text q_talk m_thrown m_size m_at m_start m_token m_value m_faultAt m_allowed m_firstPair m_secondPair m_above m_below m_refused m_tongue m_said) H locs) (hl : lv_has ls 6 [(0, .ref q), (2, .int x2), (4, .int x4)]) : W p l e rX11_fewest s m args below meth c H locs 0 0 (MQ below (gm_Q (dC, dI) [(cI, .int)] A (some (.int out.1)) (wX11_fewest cI q q_refused q_tongue q_said q_fresh q_kept q_isKept q_text q_talk out.2.1 m_size m_at m_start m_token m_value m_faultAt m_allowed m_firstPair m_secondPair m_above m_below out.2.2.1 m_tongue out.2.2.2)) args s 0 0 A) (F0 m 115 ls []) := by
  obtain ⟨hx, hb, hml, hr, hown, hts, hA, hK, hX, hlocks⟩ := id C0
  unfold fX11_fewest_b115 at h
  refine lv_iload hx hb dX11_fewest_115 (lv_at hl 2 rfl) ?_
  refine lv_goto (tgt := 121) hx hb dX11_fewest_117 (by decide) ?_
  exact tX11_fewest_b121 C0 hr60 h hH (lv_sub hl [0, 1, 2] rfl)
set_option maxRecDepth 100000 in
set_option maxHeartbeats 4000000 in
theorem tX11_fewest_b91 {p : Program} {l : Launch} {e : Env} {s : State} {m : MethodId} {args : Array Value} {below : List Frame} {meth : Method} {c : Code} {A : Nat → Prop} {dC : Nat → ClassId} {dI : Nat → Nat → Nat} {cI : ClassId} {q q_refused q_tongue q_said q_fresh q_kept q_isKept q_text q_talk : Nat} {m_thrown : Int32} {m_size : Int32} {m_at : Int32} {m_start : Int32} {m_token : Int32} {m_value : Int64} {m_faultAt : Int32} {m_allowed : Int32} {m_firstPair : Int32} {m_secondPair : Int32} {m_above : Int64} {m_below : Int64} {m_refused : Nat → Int32} {m_tongue : Nat → Int32} {m_said : Nat → Int32} {x2 : Int32} {x3 : Int32} {x4 : Int32} {k0 : Int32} (C0 : gm_C p s m args meth c (dC, dI) [(cI, .int)] A gm_T RX11 cX11_fewest 6 (some .int) wsX11_fewest) {N : Nat} {out : Int32 × Int32 × (Nat → Int32) × (Nat → Int32)} {r60 : Int32 → Int32 → Option (Int32 × Int32 × (Nat → Int32) × (Nat → Int32))} (hr60 : ∀ (x3 : Int32) (x4 : Int32) (H : Heap) (locs : List Loc) (ls : Array Slot), r60 x3 x4 = some out → gm_H (dC, dI) A s (wX11_fewest cI q q_refused q_tongue q_said q_fresh q_kept q_isKept q_text q_talk m_thrown m_size m_at m_start m_token m_value m_faultAt m_allowed m_firstPair m_secondPair m_above m_below m_refused m_tongue m_said) H locs → lv_has ls 6 [(0, .ref q), (2, .int x2), (3, .int x3), (4, .int x4)] → W p l e rX11_fewest s m args below meth c H locs 0 0 (MQ below (gm_Q (dC, dI) [(cI, .int)] A (some (.int out.1)) (wX11_fewest cI q q_refused q_tongue q_said q_fresh q_kept q_isKept q_text q_talk out.2.1 m_size m_at m_start m_token m_value m_faultAt m_allowed m_firstPair m_secondPair m_above m_below out.2.2.1 m_tongue out.2.2.2)) args s 0 0 A) (F0 m 60 ls []))   {H : Heap} {locs : List Loc} {ls : Array Slot} (h : fX11_fewest_b91 N r60 m_thrown m_refused m_tongue m_said x2 x3 x4 k0 = some out) (hH : gm_H (dC, dI) A s (wX11_fewest cI q q_refused q_tongue q_said q_fresh q_kept q_isKept q_text q_talk m_thrown m_size m_at m_start m_token m_value m_faultAt m_allowed m_firstPair m_secondPair m_above m_below m_refused m_tongue m_said) H locs) (hl : lv_has ls 6 [(0, .ref q), (2, .int x2), (3, .int x3), (4, .int x4)]) : W p l e rX11_fewest s m args below meth c H locs 0 0 (MQ below (gm_Q (dC, dI) [(cI, .int)] A (some (.int out.1)) (wX11_fewest cI q q_refused q_tongue q_said q_fresh q_kept q_isKept q_text q_talk out.2.1 m_size m_at m_start m_token m_value m_faultAt m_allowed m_firstPair m_secondPair m_above m_below out.2.2.1 m_tongue out.2.2.2)) args s 0 0 A) (F0 m 91 ls [.int k0]) := by
  obtain ⟨hx, hb, hml, hr, hown, hts, hA, hK, hX, hlocks⟩ := id C0
  unfold fX11_fewest_b91 at h
  refine lv_istore (lv' := [(5, .int k0), (0, .ref q), (2, .int x2), (3, .int x3), (4, .int x4)]) hx hb dX11_fewest_91 hl (by decide) rfl (fun ls hl => ?_)
  refine lv_iload hx hb dX11_fewest_93 (lv_at hl 0 rfl) ?_
  refine lv_if_eq (tgt := 120) hx hb dX11_fewest_95 (by decide) (fun hc12 => ?_) (fun hc12 => ?_)
  · replace h := gm_pos hc12 h
    exact tX11_fewest_b120 C0 hr60 h hH (lv_sub hl [1, 2, 3, 4] rfl)
  · replace h := gm_neg hc12 h
    refine lv_iload_n hx hb dX11_fewest_98 rfl (lv_at hl 3 rfl) ?_
    refine lv_iconst (v := (-1)) hx hb dX11_fewest_99 (by decide) ?_
    refine lv_icmp_eq (tgt := 115) hx hb dX11_fewest_100 (by decide) (fun hc13 => ?_) (fun hc13 => ?_)
    · replace h := gm_pos hc13 h
      exact tX11_fewest_b115 C0 hr60 h hH (lv_sub hl [1, 2, 4] rfl)
    · replace h := gm_neg hc13 h
      refine lv_iload hx hb dX11_fewest_103 (lv_at hl 4 rfl) ?_
      obtain ⟨o14, ho14, h⟩ := gm_bind_e h
      refine gm_callS (As := [.int x4]) (rest := []) (n := 1) C0 hH (mX11_bits l dC dI    x4   ho14) gX11_fewest_X11_bits rfl (by decide +kernel) ⟨rfl, rfl, Nat.le_of_ble_eq_true rfl, Nat.le_of_ble_eq_true rfl⟩ gm_T_ok (fun _ => trivial) [] rfl rfl rfl [] rfl rfl hl.1 rfl (Nat.le_of_ble_eq_true rfl) dX11_fewest_105 ⟨Nat.zero_le _, Nat.zero_le _⟩ (fun H locs hH => ?_)
      have hH : gm_H (dC, dI) A s (wX11_fewest cI q q_refused q_tongue q_said q_fresh q_kept q_isKept q_text q_talk m_thrown m_size m_at m_start m_token m_value m_faultAt m_allowed m_firstPair m_secondPair m_above m_below m_refused m_tongue m_said) H locs := hH
      refine lv_iload_n hx hb dX11_fewest_108 rfl (lv_at hl 3 rfl) ?_
      obtain ⟨o15, ho15, h⟩ := gm_bind_e h
      refine gm_callS (As := [.int x3]) (rest := [.int o14]) (n := 1) C0 hH (mX11_bits l dC dI    x3   ho15) gX11_fewest_X11_bits rfl (by decide +kernel) ⟨rfl, rfl, Nat.le_of_ble_eq_true rfl, Nat.le_of_ble_eq_true rfl⟩ gm_T_ok (fun _ => trivial) [] rfl rfl rfl [] rfl rfl hl.1 rfl (Nat.le_of_ble_eq_true rfl) dX11_fewest_109 ⟨Nat.zero_le _, Nat.zero_le _⟩ (fun H locs hH => ?_)
      have hH : gm_H (dC, dI) A s (wX11_fewest cI q q_refused q_tongue q_said q_fresh q_kept q_isKept q_text q_talk m_thrown m_size m_at m_start m_token m_value m_faultAt m_allowed m_firstPair m_secondPair m_above m_below m_refused m_tongue m_said) H locs := hH
      refine lv_icmp_ge (tgt := 120) hx hb dX11_fewest_112 (by decide) (fun hc16 => ?_) (fun hc16 => ?_)
      · replace h := gm_pos hc16 h
        exact tX11_fewest_b120 C0 hr60 h hH (lv_sub hl [1, 2, 3, 4] rfl)
      · replace h := gm_neg hc16 h
        exact tX11_fewest_b115 C0 hr60 h hH (lv_sub hl [1, 2, 4] rfl)
set_option maxRecDepth 100000 in
set_option maxHeartbeats 4000000 in
theorem tX11_fewest_b60 {p : Program} {l : Launch} {e : Env} {s : State} {m : MethodId} {args : Array Value} {below : List Frame} {meth : Method} {c : Code} {A : Nat → Prop} {dC : Nat → ClassId} {dI : Nat → Nat → Nat} {cI : ClassId} {q q_refused q_tongue q_said q_fresh q_kept q_isKept q_text q_talk : Nat} {m_thrown : Int32} {m_size : Int32} {m_at : Int32} {m_start : Int32} {m_token : Int32} {m_value : Int64} {m_faultAt : Int32} {m_allowed : Int32} {m_firstPair : Int32} {m_secondPair : Int32} {m_above : Int64} {m_below : Int64} {m_refused : Nat → Int32} {m_tongue : Nat → Int32} {m_said : Nat → Int32} {x2 : Int32} (C0 : gm_C p s m args meth c (dC, dI) [(cI, .int)] A gm_T RX11 cX11_fewest 6 (some .int) wsX11_fewest) {N : Nat} {out : Int32 × Int32 × (Nat → Int32) × (Nat → Int32)}   : ∀ (n : Nat), ∀ (x3 : Int32) (x4 : Int32) (H : Heap) (locs : List Loc) (ls : Array Slot), (gm_fix (fX11_fewest_b60_body N  m_thrown m_refused m_tongue m_said x2) (fun _ _ => none) n) x3 x4 = some out → gm_H (dC, dI) A s (wX11_fewest cI q q_refused q_tongue q_said q_fresh q_kept q_isKept q_text q_talk m_thrown m_size m_at m_start m_token m_value m_faultAt m_allowed m_firstPair m_secondPair m_above m_below m_refused m_tongue m_said) H locs → lv_has ls 6 [(0, .ref q), (2, .int x2), (3, .int x3), (4, .int x4)] → W p l e rX11_fewest s m args below meth c H locs 0 0 (MQ below (gm_Q (dC, dI) [(cI, .int)] A (some (.int out.1)) (wX11_fewest cI q q_refused q_tongue q_said q_fresh q_kept q_isKept q_text q_talk out.2.1 m_size m_at m_start m_token m_value m_faultAt m_allowed m_firstPair m_secondPair m_above m_below out.2.2.1 m_tongue out.2.2.2)) args s 0 0 A) (F0 m 60 ls []) := by
  obtain ⟨hx, hb, hml, hr, hown, hts, hA, hK, hX, hlocks⟩ := id C0
  intro n
  induction n with
  | zero =>
    intro x3 x4 H locs ls h hH hl
    cases h
  | succ n hr60 =>
    intro x3 x4 H locs ls h hH hl
    rw [gm_fix_s] at h
    unfold fX11_fewest_b60_body at h
    refine lv_iload hx hb dX11_fewest_60 (lv_at hl 3 rfl) ?_
    refine lv_iconst (v := 1) hx hb dX11_fewest_62 (by decide) ?_
    refine lv_aload_n hx hb dX11_fewest_63 rfl (lv_at hl 0 rfl) ?_
    refine gm_get (ci := 11) C0 hH inX11_fewest_X11 0 2 2 rfl rfl (by decide) rfl rfl dX11_fewest_64 ?_
    refine lv_iconst (v := 0) hx hb dX11_fewest_67 (by decide) ?_
    obtain ⟨hi8, h⟩ := gm_chk_e h
    refine gm_iald C0 hH hi8 2 0 rfl rfl dX11_fewest_68 ?_
    refine lv_ishl hx hb dX11_fewest_69 ?_
    refine lv_icmp_ge (tgt := 128) hx hb dX11_fewest_70 (by decide) (fun hc9 => ?_) (fun hc9 => ?_)
    · replace h := gm_pos hc9 h
      refine lv_iload_n hx hb dX11_fewest_128 rfl (lv_at hl 2 rfl) ?_
      obtain rfl := Option.some.inj h
      exact gm_iret C0 hH dX11_fewest_129
    · replace h := gm_neg hc9 h
      refine lv_iload_n hx hb dX11_fewest_73 rfl (lv_at hl 1 rfl) ?_
      refine lv_aload_n hx hb dX11_fewest_74 rfl (lv_at hl 0 rfl) ?_
      refine lv_iload hx hb dX11_fewest_75 (lv_at hl 3 rfl) ?_
      obtain ⟨o10, ho10, h⟩ := gm_bind_e h
      refine gm_callV (As := [.int x4]) (rest := [.int x2]) (n := 1) (ci := 11) (q0 := 0) C0 hH (mX11_saidBy l dC dI cI q q_tongue q_said q_refused q_fresh q_kept q_isKept q_text q_talk m_thrown m_size m_at m_start m_token m_value m_faultAt m_allowed m_firstPair m_secondPair m_above m_below m_tongue m_said x4   ho10) gX11_fewest_X11_saidBy rfl (by decide +kernel) ⟨rfl, rfl, Nat.le_of_ble_eq_true rfl, Nat.le_of_ble_eq_true rfl⟩ gm_T_ok (fun _ => trivial) [0, 2, 3] rfl rfl rfl [0] rfl rfl rfl rfl hl.1 rfl (Nat.le_of_ble_eq_true rfl) dX11_fewest_77 ⟨Nat.zero_le _, Nat.zero_le _⟩ (fun H locs hH => ?_)
      have hH : gm_H (dC, dI) A s (wX11_fewest cI q q_refused q_tongue q_said q_fresh q_kept q_isKept q_text q_talk m_thrown m_size m_at m_start m_token m_value m_faultAt m_allowed m_firstPair m_secondPair m_above m_below m_refused m_tongue m_said) H locs := hH
      refine lv_iconst (v := (-1)) hx hb dX11_fewest_80 (by decide) ?_
      refine lv_ixor hx hb dX11_fewest_81 ?_
      refine lv_iand hx hb dX11_fewest_82 ?_
      refine lv_if_ne (tgt := 90) hx hb dX11_fewest_83 (by decide) (fun hc11 => ?_) (fun hc11 => ?_)
      · replace h := gm_neg hc11 h
        refine lv_iconst (v := 0) hx hb dX11_fewest_90 (by decide) ?_
        exact tX11_fewest_b91 C0 hr60 h hH (lv_sub hl [0, 1, 2, 3] rfl)
      · replace h := gm_pos hc11 h
        refine lv_iconst (v := 1) hx hb dX11_fewest_86 (by decide) ?_
        refine lv_goto (tgt := 91) hx hb dX11_fewest_87 (by decide) ?_
        exact tX11_fewest_b91 C0 hr60 h hH (lv_sub hl [0, 1, 2, 3] rfl)
set_option maxRecDepth 100000 in
set_option maxHeartbeats 4000000 in
theorem tX11_fewest_b55 {p : Program} {l : Launch} {e : Env} {s : State} {m : MethodId} {args : Array Value} {below : List Frame} {meth : Method} {c : Code} {A : Nat → Prop} {dC : Nat → ClassId} {dI : Nat → Nat → Nat} {cI : ClassId} {q q_refused q_tongue q_said q_fresh q_kept q_isKept q_text q_talk : Nat} {m_thrown : Int32} {m_size : Int32} {m_at : Int32} {m_start : Int32} {m_token : Int32} {m_value : Int64} {m_faultAt : Int32} {m_allowed : Int32} {m_firstPair : Int32} {m_secondPair : Int32} {m_above : Int64} {m_below : Int64} {m_refused : Nat → Int32} {m_tongue : Nat → Int32} {m_said : Nat → Int32} {x2 : Int32} (C0 : gm_C p s m args meth c (dC, dI) [(cI, .int)] A gm_T RX11 cX11_fewest 6 (some .int) wsX11_fewest) {N : Nat} {out : Int32 × Int32 × (Nat → Int32) × (Nat → Int32)}    {H : Heap} {locs : List Loc} {ls : Array Slot} (h : fX11_fewest_b55 N  m_thrown m_refused m_tongue m_said x2 = some out) (hH : gm_H (dC, dI) A s (wX11_fewest cI q q_refused q_tongue q_said q_fresh q_kept q_isKept q_text q_talk m_thrown m_size m_at m_start m_token m_value m_faultAt m_allowed m_firstPair m_secondPair m_above m_below m_refused m_tongue m_said) H locs) (hl : lv_has ls 6 [(0, .ref q), (2, .int x2)]) : W p l e rX11_fewest s m args below meth c H locs 0 0 (MQ below (gm_Q (dC, dI) [(cI, .int)] A (some (.int out.1)) (wX11_fewest cI q q_refused q_tongue q_said q_fresh q_kept q_isKept q_text q_talk out.2.1 m_size m_at m_start m_token m_value m_faultAt m_allowed m_firstPair m_secondPair m_above m_below out.2.2.1 m_tongue out.2.2.2)) args s 0 0 A) (F0 m 55 ls []) := by
  obtain ⟨hx, hb, hml, hr, hown, hts, hA, hK, hX, hlocks⟩ := id C0
  unfold fX11_fewest_b55 at h
  refine lv_iconst (v := (-1)) hx hb dX11_fewest_55 (by decide) ?_
  refine lv_istore_n (lv' := [(3, .int (-1)), (0, .ref q), (2, .int x2)]) hx hb dX11_fewest_56 rfl hl (by decide) rfl (fun ls hl => ?_)
  refine lv_iconst (v := 0) hx hb dX11_fewest_57 (by decide) ?_
  refine lv_istore (lv' := [(4, .int 0), (3, .int (-1)), (0, .ref q), (2, .int x2)]) hx hb dX11_fewest_58 hl (by decide) rfl (fun ls hl => ?_)
  unfold fX11_fewest_b60 at h
  exact tX11_fewest_b60 C0  _ _ _ _ _ _ h hH (lv_sub hl [2, 3, 1, 0] rfl)
set_option maxRecDepth 100000 in
set_option maxHeartbeats 4000000 in
theorem tX11_fewest_b27 {p : Program} {l : Launch} {e : Env} {s : State} {m : MethodId} {args : Array Value} {below : List Frame} {meth : Method} {c : Code} {A : Nat → Prop} {dC : Nat → ClassId} {dI : Nat → Nat → Nat} {cI : ClassId} {q q_refused q_tongue q_said q_fresh q_kept q_isKept q_text q_talk : Nat} {m_thrown : Int32} {m_size : Int32} {m_at : Int32} {m_start : Int32} {m_token : Int32} {m_value : Int64} {m_faultAt : Int32} {m_allowed : Int32} {m_firstPair : Int32} {m_secondPair : Int32} {m_above : Int64} {m_below : Int64} {m_refused : Nat → Int32} {m_tongue : Nat → Int32} {x1 : Int32} {x2 : Int32} (C0 : gm_C p s m args meth c (dC, dI) [(cI, .int)] A gm_T RX11 cX11_fewest 6 (some .int) wsX11_fewest) {N : Nat} {out : Int32 × Int32 × (Nat → Int32) × (Nat → Int32)}   : ∀ (n : Nat), ∀ (m_said : Nat → Int32) (x3 : Int32) (H : Heap) (locs : List Loc) (ls : Array Slot), (gm_fix (fX11_fewest_b27_body N  m_thrown m_refused m_tongue x1 x2) (fun _ _ => none) n) m_said x3 = some out → gm_H (dC, dI) A s (wX11_fewest cI q q_refused q_tongue q_said q_fresh q_kept q_isKept q_text q_talk m_thrown m_size m_at m_start m_token m_value m_faultAt m_allowed m_firstPair m_secondPair m_above m_below m_refused m_tongue m_said) H locs → lv_has ls 6 [(0, .ref q), (1, .int x1), (2, .int x2), (3, .int x3)] → W p l e rX11_fewest s m args below meth c H locs 0 0 (MQ below (gm_Q (dC, dI) [(cI, .int)] A (some (.int out.1)) (wX11_fewest cI q q_refused q_tongue q_said q_fresh q_kept q_isKept q_text q_talk out.2.1 m_size m_at m_start m_token m_value m_faultAt m_allowed m_firstPair m_secondPair m_above m_below out.2.2.1 m_tongue out.2.2.2)) args s 0 0 A) (F0 m 27 ls []) := by
  obtain ⟨hx, hb, hml, hr, hown, hts, hA, hK, hX, hlocks⟩ := id C0
  intro n
  induction n with
  | zero =>
    intro m_said x3 H locs ls h hH hl
    cases h
  | succ n hr27 =>
    intro m_said x3 H locs ls h hH hl
    rw [gm_fix_s] at h
    unfold fX11_fewest_b27_body at h
    refine lv_iload_n hx hb dX11_fewest_27 rfl (lv_at hl 3 rfl) ?_
    refine lv_aload_n hx hb dX11_fewest_28 rfl (lv_at hl 0 rfl) ?_
    refine gm_get (ci := 11) C0 hH inX11_fewest_X11 0 2 2 rfl rfl (by decide) rfl rfl dX11_fewest_29 ?_
    refine lv_iconst (v := 0) hx hb dX11_fewest_32 (by decide) ?_
    obtain ⟨hi6, h⟩ := gm_chk_e h
    refine gm_iald C0 hH hi6 2 0 rfl rfl dX11_fewest_33 ?_
    refine lv_icmp_ge (tgt := 55) hx hb dX11_fewest_34 (by decide) (fun hc7 => ?_) (fun hc7 => ?_)
    · replace h := gm_pos hc7 h
      exact tX11_fewest_b55 C0  h hH (lv_sub hl [0, 2] rfl)
    · replace h := gm_neg hc7 h
      refine lv_aload_n hx hb dX11_fewest_37 rfl (lv_at hl 0 rfl) ?_
      refine gm_get (ci := 11) C0 hH inX11_fewest_X11 0 13 3 rfl rfl (by decide) rfl rfl dX11_fewest_38 ?_
      refine lv_iload_n hx hb dX11_fewest_41 rfl (lv_at hl 3 rfl) ?_
      refine lv_aload_n hx hb dX11_fewest_42 rfl (lv_at hl 0 rfl) ?_
      refine lv_iload_n hx hb dX11_fewest_43 rfl (lv_at hl 1 rfl) ?_
      refine lv_iload_n hx hb dX11_fewest_44 rfl (lv_at hl 3 rfl) ?_
      obtain ⟨o17, ho17, h⟩ := gm_bind_e h
      refine gm_callV (As := [.int x1, .int x3]) (rest := [.int x3, .ref q_said]) (n := 2) (ci := 11) (q0 := 0) C0 hH (mX11_canSay l dC dI cI q q_tongue q_refused q_fresh q_kept q_isKept q_text q_said q_talk m_thrown m_size m_at m_start m_token m_value m_faultAt m_allowed m_firstPair m_secondPair m_above m_below m_tongue x1 x3   ho17) gX11_fewest_X11_canSay rfl (by decide +kernel) ⟨rfl, rfl, Nat.le_of_ble_eq_true rfl, Nat.le_of_ble_eq_true rfl⟩ gm_T_ok (fun _ => trivial) [0, 2] rfl rfl rfl [0] rfl rfl rfl rfl hl.1 rfl (Nat.le_of_ble_eq_true rfl) dX11_fewest_45 ⟨Nat.zero_le _, Nat.zero_le _⟩ (fun H locs hH => ?_)
      have hH : gm_H (dC, dI) A s (wX11_fewest cI q q_refused q_tongue q_said q_fresh q_kept q_isKept q_text q_talk m_thrown m_size m_at m_start m_token m_value m_faultAt m_allowed m_firstPair m_secondPair m_above m_below m_refused m_tongue m_said) H locs := hH
      obtain ⟨hi18, h⟩ := gm_chk_e h
      refine gm_iast C0 hH hi18 3 0 rfl rfl dX11_fewest_48 (fun H locs hH => ?_)
      have hH : gm_H (dC, dI) A s (wX11_fewest cI q q_refused q_tongue q_said q_fresh q_kept q_isKept q_text q_talk m_thrown m_size m_at m_start m_token m_value m_faultAt m_allowed m_firstPair m_secondPair m_above m_below m_refused m_tongue (upd m_said (Int32.toNatClampNeg x3) o17)) H locs := hH
      refine lv_iinc (v := (x3 + 1)) (lv' := [(3, .int (x3 + 1)), (0, .ref q), (1, .int x1), (2, .int x2)]) hx hb dX11_fewest_49 hl (k := 3) rfl rfl (by decide) rfl (fun ls hl => ?_)
      refine lv_goto (tgt := 27) hx hb dX11_fewest_52 (by decide) ?_
      exact hr27 _ _ _ _ _ h hH (lv_sub hl [1, 2, 3, 0] rfl)
set_option maxRecDepth 100000 in
set_option maxHeartbeats 4000000 in
theorem mX11_fewest (l : Launch) (dC : Nat → ClassId) (dI : Nat → Nat → Nat) (cI : ClassId) (q q_refused q_tongue q_said q_fresh q_kept q_isKept q_text q_talk : Nat) (m_thrown : Int32) (m_size : Int32) (m_at : Int32) (m_start : Int32) (m_token : Int32) (m_value : Int64) (m_faultAt : Int32) (m_allowed : Int32) (m_firstPair : Int32) (m_secondPair : Int32) (m_above : Int64) (m_below : Int64) (m_refused : Nat → Int32) (m_tongue : Nat → Int32) (m_said : Nat → Int32) (x1 : Int32) (x2 : Int32)  {N : Nat} {out : Int32 × Int32 × (Nat → Int32) × (Nat → Int32)} (h : fX11_fewest N m_thrown m_refused m_tongue m_said x1 x2 = some out) : gm_Met l yX11_fewest wsX11_fewest rX11_fewest (dC, dI) [(cI, .int)] gm_T [.ref q, .int x1, .int x2] (wX11_fewest cI q q_refused q_tongue q_said q_fresh q_kept q_isKept q_text q_talk m_thrown m_size m_at m_start m_token m_value m_faultAt m_allowed m_firstPair m_secondPair m_above m_below m_refused m_tongue m_said) (some (.int out.1)) (wX11_fewest cI q q_refused q_tongue q_said q_fresh q_kept q_isKept q_text q_talk out.2.1 m_size m_at m_start m_token m_value m_faultAt m_allowed m_firstPair m_secondPair m_above m_below out.2.2.1 m_tongue out.2.2.2) := by
  refine gm_ofW (cc := cX11_fewest) (maxL := 6) (ret := (some .int)) (by decide +kernel) rfl (Nat.le_of_ble_eq_true rfl) ?_
  intro p e s m below meth c A C0 hH ls hl
  generalize ([.ref q, .int x1, .int x2] : List Value).toArray = args at C0 ⊢
  have hl : lv_has ls 6 [(0, .ref q), (1, .int x1), (2, .int x2)] := hl
  generalize s.heap = H at hH ⊢
  generalize ([] : List Loc) = locs at hH ⊢
  obtain ⟨hx, hb, hml, hr, hown, hts, hA, hK, hX, hlocks⟩ := id C0
  unfold fX11_fewest at h
  refine lv_aload_n hx hb dX11_fewest_0 rfl (lv_at hl 0 rfl) ?_
  refine lv_iconst (v := 0) hx hb dX11_fewest_1 (by decide) ?_
  refine gm_putf (ci := 11) C0 hH inX11_fewest_X11 tyX11_ok nmX11 0 0 1 rfl rfl (by decide) rfl rfl rfl rfl rfl (Nat.le_of_ble_eq_true rfl) dX11_fewest_2 (fun H locs hH => ?_)
  have hH : gm_H (dC, dI) A s (wX11_fewest cI q q_refused q_tongue q_said q_fresh q_kept q_isKept q_text q_talk 0 m_size m_at m_start m_token m_value m_faultAt m_allowed m_firstPair m_secondPair m_above m_below m_refused m_tongue m_said) H locs := hH
  refine lv_aload_n hx hb dX11_fewest_5 rfl (lv_at hl 0 rfl) ?_
  refine lv_iload_n hx hb dX11_fewest_6 rfl (lv_at hl 1 rfl) ?_
  obtain ⟨o1, ho1, h⟩ := gm_bind_e h
  refine gm_callV (As := [.int x1]) (rest := []) (n := 1) (ci := 11) (q0 := 0) C0 hH (mX11_noPerson l dC dI cI q q_tongue q_refused q_fresh q_kept q_isKept q_text q_said q_talk 0 m_size m_at m_start m_token m_value m_faultAt m_allowed m_firstPair m_secondPair m_above m_below m_tongue x1   ho1) gX11_fewest_X11_noPerson rfl (by decide +kernel) ⟨rfl, rfl, Nat.le_of_ble_eq_true rfl, Nat.le_of_ble_eq_true rfl⟩ gm_T_ok (fun _ => trivial) [0, 2] rfl rfl rfl [0] rfl rfl rfl rfl hl.1 rfl (Nat.le_of_ble_eq_true rfl) dX11_fewest_7 ⟨Nat.zero_le _, Nat.zero_le _⟩ (fun H locs hH => ?_)
  have hH : gm_H (dC, dI) A s (wX11_fewest cI q q_refused q_tongue q_said q_fresh q_kept q_isKept q_text q_talk 0 m_size m_at m_start m_token m_value m_faultAt m_allowed m_firstPair m_secondPair m_above m_below m_refused m_tongue m_said) H locs := hH
  refine lv_if_ne (tgt := 20) hx hb dX11_fewest_10 (by decide) (fun hc2 => ?_) (fun hc2 => ?_)
  · replace h := gm_neg hc2 h
    exact tX11_fewest_b20 C0  h hH (lv_sub hl [0] rfl)
  · replace h := gm_pos hc2 h
    refine lv_iload_n hx hb dX11_fewest_13 rfl (lv_at hl 2 rfl) ?_
    obtain ⟨o4, ho4, h⟩ := gm_bind_e h
    refine gm_callS (As := [.int x2]) (rest := []) (n := 1) C0 hH (mX11_areMeanings l dC dI    x2   ho4) gX11_fewest_X11_areMeanings rfl (by decide +kernel) ⟨rfl, rfl, Nat.le_of_ble_eq_true rfl, Nat.le_of_ble_eq_true rfl⟩ gm_T_ok (fun _ => trivial) [] rfl rfl rfl [] rfl rfl hl.1 rfl (Nat.le_of_ble_eq_true rfl) dX11_fewest_14 ⟨Nat.zero_le _, Nat.zero_le _⟩ (fun H locs hH => ?_)
    have hH : gm_H (dC, dI) A s (wX11_fewest cI q q_refused q_tongue q_said q_fresh q_kept q_isKept q_text q_talk 0 m_size m_at m_start m_token m_value m_faultAt m_allowed m_firstPair m_secondPair m_above m_below m_refused m_tongue m_said) H locs := hH
    refine lv_if_ne (tgt := 25) hx hb dX11_fewest_17 (by decide) (fun hc5 => ?_) (fun hc5 => ?_)
    · replace h := gm_neg hc5 h
      refine lv_iconst (v := 0) hx hb dX11_fewest_25 (by decide) ?_
      refine lv_istore_n (lv' := [(3, .int 0), (0, .ref q), (1, .int x1), (2, .int x2)]) hx hb dX11_fewest_26 rfl hl (by decide) rfl (fun ls hl => ?_)
      unfold fX11_fewest_b27 at h
      exact tX11_fewest_b27 C0  _ _ _ _ _ _ h hH (lv_sub hl [1, 2, 3, 0] rfl)
    · replace h := gm_pos hc5 h
      exact tX11_fewest_b20 C0  h hH (lv_sub hl [0] rfl)

/-! X11_errand -/
abbrev wX11_errand (cI : ClassId) (q q_refused q_tongue q_said q_fresh q_kept q_isKept q_text q_talk : Nat) (m_thrown : Int32) (m_size : Int32) (m_at : Int32) (m_start : Int32) (m_token : Int32) (m_value : Int64) (m_faultAt : Int32) (m_allowed : Int32) (m_firstPair : Int32) (m_secondPair : Int32) (m_above : Int64) (m_below : Int64) (m_refused : Nat → Int32) (m_tongue : Nat → Int32) (m_said : Nat → Int32) : va_W := [(q, .inr (11, [.int m_thrown, .ref q_refused, .ref q_tongue, .ref q_fresh, .ref q_kept, .ref q_isKept, .ref q_text, .int m_size, .int m_at, .int m_start, .int m_token, .long m_value, .int m_faultAt, .ref q_said, .ref q_talk, .int m_allowed, .int m_firstPair, .int m_secondPair, .long m_above, .long m_below])), (q_refused, .inl (cI, 3, .inl m_refused)), (q_tongue, .inl (cI, 73, .inl m_tongue)), (q_said, .inl (cI, 10, .inl m_said))]
abbrev rX11_errand : Room := { frames := 7, cells := 0, slots := 0, locals := 157 }
def fX11_errand_b22 (N : Nat)  (m_thrown : Int32) (m_refused : Nat → Int32) (m_said : Nat → Int32) : Option (Int32 × Int32 × (Nat → Int32) × (Nat → Int32)) := gm_bind (fX11_badTen N m_refused) (fun o3 => some (o3.1, m_thrown, o3.2, m_said))
def fX11_errand_b228 (N : Nat)  (m_thrown : Int32) (m_refused : Nat → Int32) (m_said : Nat → Int32) (x2 : Int32) (x3 : Int32) (x4 : Int32) : Option (Int32 × Int32 × (Nat → Int32) × (Nat → Int32)) := (if x2 = 0 then some (x4, m_thrown, m_refused, m_said) else some (x3, m_thrown, m_refused, m_said))
def fX11_errand_b220 (N : Nat) (r96 : Int32 → Int32 → Int32 → Option (Int32 × Int32 × (Nat → Int32) × (Nat → Int32))) (m_thrown : Int32) (m_refused : Nat → Int32) (m_tongue : Nat → Int32) (m_said : Nat → Int32) (x1 : Int32) (x2 : Int32) (x3 : Int32) (x5 : Int32) (k0 : Int32) : Option (Int32 × Int32 × (Nat → Int32) × (Nat → Int32)) := (r96 x3 k0 ((x5 + 1)))
def fX11_errand_b207 (N : Nat) (r96 : Int32 → Int32 → Int32 → Option (Int32 × Int32 × (Nat → Int32) × (Nat → Int32))) (m_thrown : Int32) (m_refused : Nat → Int32) (m_tongue : Nat → Int32) (m_said : Nat → Int32) (x1 : Int32) (x2 : Int32) (x4 : Int32) (x5 : Int32) (x6 : Int32) (x7 : Int32) (k0 : Int32) : Option (Int32 × Int32 × (Nat → Int32) × (Nat → Int32)) := (if x7 = 0 then (fX11_errand_b220 N r96 m_thrown m_refused m_tongue m_said x1 x2 k0 x5 x4) else (fX11_errand_b220 N r96 m_thrown m_refused m_tongue m_said x1 x2 k0 x5 x6))
def fX11_errand_b194 (N : Nat) (r96 : Int32 → Int32 → Int32 → Option (Int32 × Int32 × (Nat → Int32) × (Nat → Int32))) (m_thrown : Int32) (m_refused : Nat → Int32) (m_tongue : Nat → Int32) (m_said : Nat → Int32) (x1 : Int32) (x2 : Int32) (x3 : Int32) (x4 : Int32) (x5 : Int32) (x6 : Int32) (k0 : Int32) : Option (Int32 × Int32 × (Nat → Int32) × (Nat → Int32)) := (if k0 = 0 then (fX11_errand_b207 N r96 m_thrown m_refused m_tongue m_said x1 x2 x4 x5 x6 k0 x3) else (fX11_errand_b207 N r96 m_thrown m_refused m_tongue m_said x1 x2 x4 x5 x6 k0 x5))
def fX11_errand_b193 (N : Nat) (r96 : Int32 → Int32 → Int32 → Option (Int32 × Int32 × (Nat → Int32) × (Nat → Int32))) (m_thrown : Int32) (m_refused : Nat → Int32) (m_tongue : Nat → Int32) (m_said : Nat → Int32) (x1 : Int32) (x2 : Int32) (x3 : Int32) (x4 : Int32) (x5 : Int32) (x6 : Int32) : Option (Int32 × Int32 × (Nat → Int32) × (Nat → Int32)) := (fX11_errand_b194 N r96 m_thrown m_refused m_tongue m_said x1 x2 x3 x4 x5 x6 0)
def fX11_errand_b189 (N : Nat) (r96 : Int32 → Int32 → Int32 → Option (Int32 × Int32 × (Nat → Int32) × (Nat → Int32))) (m_thrown : Int32) (m_refused : Nat → Int32) (m_tongue : Nat → Int32) (m_said : Nat → Int32) (x1 : Int32) (x2 : Int32) (x3 : Int32) (x4 : Int32) (x5 : Int32) (x6 : Int32) : Option (Int32 × Int32 × (Nat → Int32) × (Nat → Int32)) := (fX11_errand_b194 N r96 m_thrown m_refused m_tongue m_said x1 x2 x3 x4 x5 x6 1)
def fX11_errand_b164 (N : Nat) (r96 : Int32 → Int32 → Int32 → Option (Int32 × Int32 × (Nat → Int32) × (Nat → Int32))) (m_thrown : Int32) (m_refused : Nat → Int32) (m_tongue : Nat → Int32) (m_said : Nat → Int32) (x1 : Int32) (x2 : Int32) (x3 : Int32) (x4 : Int32) (x5 : Int32) (x6 : Int32) : Option (Int32 × Int32 × (Nat → Int32) × (Nat → Int32)) := gm_bind (fX11_saidBy N m_tongue m_said x5) (fun o13 => (if (x1 &&& (o13 ^^^ (-1))) = 0 then (if x3 = (-1) then (fX11_errand_b189 N r96 m_thrown m_refused m_tongue m_said x1 x2 x3 x4 x5 x6) else (if x4 ≤ x6 then (fX11_errand_b193 N r96 m_thrown m_refused m_tongue m_said x1 x2 x3 x4 x5 x6) else (fX11_errand_b189 N r96 m_thrown m_refused m_tongue m_said x1 x2 x3 x4 x5 x6))) else (fX11_errand_b193 N r96 m_thrown m_refused m_tongue m_said x1 x2 x3 x4 x5 x6)))
def fX11_errand_b155 (N : Nat) (r96 : Int32 → Int32 → Int32 → Option (Int32 × Int32 × (Nat → Int32) × (Nat → Int32))) (r115 : Int32 → Int32 → Option (Int32 × Int32 × (Nat → Int32) × (Nat → Int32))) (m_thrown : Int32) (m_refused : Nat → Int32) (m_tongue : Nat → Int32) (m_said : Nat → Int32) (x1 : Int32) (x2 : Int32) (x3 : Int32) (x4 : Int32) (x5 : Int32) (x7 : Int32) (k0 : Int32) (k1 : Int32) : Option (Int32 × Int32 × (Nat → Int32) × (Nat → Int32)) := gm_let ((k0 + k1) : Int32) (fun (v21 : Int32) => (r115 v21 ((x7 + 1))))
def fX11_errand_b115_body (N : Nat) (r96 : Int32 → Int32 → Int32 → Option (Int32 × Int32 × (Nat → Int32) × (Nat → Int32))) (m_thrown : Int32) (m_refused : Nat → Int32) (m_tongue : Nat → Int32) (m_said : Nat → Int32) (x1 : Int32) (x2 : Int32) (x3 : Int32) (x4 : Int32) (x5 : Int32) (r115 : Int32 → Int32 → Option (Int32 × Int32 × (Nat → Int32) × (Nat → Int32))) (x6 : Int32) (x7 : Int32) : Option (Int32 × Int32 × (Nat → Int32) × (Nat → Int32)) := gm_chk 0 73 ((if (m_tongue (Int32.toNatClampNeg 0)) ≤ x7 then (fX11_errand_b164 N r96 m_thrown m_refused m_tongue m_said x1 x2 x3 x4 x5 x6) else gm_bind (fX11_has N x5 x7) (fun o19 => (if o19 = 0 then (fX11_errand_b155 N r96 r115 m_thrown m_refused m_tongue m_said x1 x2 x3 x4 x5 x7 x6 0) else gm_chk (((5 + (3 * x7)) + 2)) 73 ((fX11_errand_b155 N r96 r115 m_thrown m_refused m_tongue m_said x1 x2 x3 x4 x5 x7 x6 ((m_tongue (Int32.toNatClampNeg (((5 + (3 * x7)) + 2)))))))))))
def fX11_errand_b115 (N : Nat) (r96 : Int32 → Int32 → Int32 → Option (Int32 × Int32 × (Nat → Int32) × (Nat → Int32))) (m_thrown : Int32) (m_refused : Nat → Int32) (m_tongue : Nat → Int32) (m_said : Nat → Int32) (x1 : Int32) (x2 : Int32) (x3 : Int32) (x4 : Int32) (x5 : Int32) (x6 : Int32) (x7 : Int32) : Option (Int32 × Int32 × (Nat → Int32) × (Nat → Int32)) := gm_fix (fX11_errand_b115_body N r96 m_thrown m_refused m_tongue m_said x1 x2 x3 x4 x5) (fun _ _ => none) N x6 x7
def fX11_errand_b96_body (N : Nat)  (m_thrown : Int32) (m_refused : Nat → Int32) (m_tongue : Nat → Int32) (m_said : Nat → Int32) (x1 : Int32) (x2 : Int32) (r96 : Int32 → Int32 → Int32 → Option (Int32 × Int32 × (Nat → Int32) × (Nat → Int32))) (x3 : Int32) (x4 : Int32) (x5 : Int32) : Option (Int32 × Int32 × (Nat → Int32) × (Nat → Int32)) := gm_chk 0 73 ((if ((1 : Int32) <<< ((m_tongue (Int32.toNatClampNeg 0)) &&& 31)) ≤ x5 then (fX11_errand_b228 N  m_thrown m_refused m_said x2 x3 x4) else (fX11_errand_b115 N r96 m_thrown m_refused m_tongue m_said x1 x2 x3 x4 x5 0 0)))
def fX11_errand_b96 (N : Nat)  (m_thrown : Int32) (m_refused : Nat → Int32) (m_tongue : Nat → Int32) (m_said : Nat → Int32) (x1 : Int32) (x2 : Int32) (x3 : Int32) (x4 : Int32) (x5 : Int32) : Option (Int32 × Int32 × (Nat → Int32) × (Nat → Int32)) := gm_fix (fX11_errand_b96_body N  m_thrown m_refused m_tongue m_said x1 x2) (fun _ _ _ => none) N x3 x4 x5
def fX11_errand_b88 (N : Nat)  (m_thrown : Int32) (m_refused : Nat → Int32) (m_tongue : Nat → Int32) (m_said : Nat → Int32) (x1 : Int32) (x2 : Int32) : Option (Int32 × Int32 × (Nat → Int32) × (Nat → Int32)) := (fX11_errand_b96 N  m_thrown m_refused m_tongue m_said x1 x2 ((-1)) ((-1)) 0)
def fX11_errand_b82 (N : Nat) (r29 : (Nat → Int32) → Int32 → Option (Int32 × Int32 × (Nat → Int32) × (Nat → Int32))) (m_thrown : Int32) (m_refused : Nat → Int32) (m_tongue : Nat → Int32) (m_said : Nat → Int32) (x1 : Int32) (x2 : Int32) (x3 : Int32) : Option (Int32 × Int32 × (Nat → Int32) × (Nat → Int32)) := (r29 m_said ((x3 + 1)))
def fX11_errand_b49_body (N : Nat) (r29 : (Nat → Int32) → Int32 → Option (Int32 × Int32 × (Nat → Int32) × (Nat → Int32))) (m_thrown : Int32) (m_refused : Nat → Int32) (m_tongue : Nat → Int32) (x1 : Int32) (x2 : Int32) (x3 : Int32) (r49 : (Nat → Int32) → Int32 → Option (Int32 × Int32 × (Nat → Int32) × (Nat → Int32))) (m_said : Nat → Int32) (x4 : Int32) : Option (Int32 × Int32 × (Nat → Int32) × (Nat → Int32)) := gm_chk 1 73 ((if (m_tongue (Int32.toNatClampNeg 1)) ≤ x4 then (fX11_errand_b82 N r29 m_thrown m_refused m_tongue m_said x1 x2 x3) else gm_chk x3 10 (gm_bind (fX11_canSay N m_tongue x4 x3) (fun o27 => gm_chk x3 10 ((r49 (upd m_said (Int32.toNatClampNeg x3) (((m_said (Int32.toNatClampNeg x3)) ||| o27))) ((x4 + 1))))))))
def fX11_errand_b49 (N : Nat) (r29 : (Nat → Int32) → Int32 → Option (Int32 × Int32 × (Nat → Int32) × (Nat → Int32))) (m_thrown : Int32) (m_refused : Nat → Int32) (m_tongue : Nat → Int32) (x1 : Int32) (x2 : Int32) (x3 : Int32) (m_said : Nat → Int32) (x4 : Int32) : Option (Int32 × Int32 × (Nat → Int32) × (Nat → Int32)) := gm_fix (fX11_errand_b49_body N r29 m_thrown m_refused m_tongue x1 x2 x3) (fun _ _ => none) N m_said x4
def fX11_errand_b29_body (N : Nat)  (m_thrown : Int32) (m_refused : Nat → Int32) (m_tongue : Nat → Int32) (x1 : Int32) (x2 : Int32) (r29 : (Nat → Int32) → Int32 → Option (Int32 × Int32 × (Nat → Int32) × (Nat → Int32))) (m_said : Nat → Int32) (x3 : Int32) : Option (Int32 × Int32 × (Nat → Int32) × (Nat → Int32)) := gm_chk 0 73 ((if (m_tongue (Int32.toNatClampNeg 0)) ≤ x3 then (fX11_errand_b88 N  m_thrown m_refused m_tongue m_said x1 x2) else gm_chk x3 10 ((fX11_errand_b49 N r29 m_thrown m_refused m_tongue x1 x2 x3 (upd m_said (Int32.toNatClampNeg x3) 0) 0))))
def fX11_errand_b29 (N : Nat)  (m_thrown : Int32) (m_refused : Nat → Int32) (m_tongue : Nat → Int32) (x1 : Int32) (x2 : Int32) (m_said : Nat → Int32) (x3 : Int32) : Option (Int32 × Int32 × (Nat → Int32) × (Nat → Int32)) := gm_fix (fX11_errand_b29_body N  m_thrown m_refused m_tongue x1 x2) (fun _ _ => none) N m_said x3
def fX11_errand (N : Nat) (m_thrown : Int32) (m_refused : Nat → Int32) (m_tongue : Nat → Int32) (m_said : Nat → Int32) (x1 : Int32) (x2 : Int32) : Option (Int32 × Int32 × (Nat → Int32) × (Nat → Int32)) := gm_bind (fX11_areMeanings N x1) (fun o1 => (if o1 = 0 then (fX11_errand_b22 N  0 m_refused m_said) else gm_bind (fX11_in N ((Int32.toInt64 x2)) 0 1) (fun o4 => (if o4 = 0 then (fX11_errand_b22 N  0 m_refused m_said) else (fX11_errand_b29 N  0 m_refused m_tongue x1 x2 m_said 0)))))
set_option maxRecDepth 20000 in
theorem inX11_errand_X11 : ∀ w ∈ u_ws RX11 TX11 20, w ∈ wsX11_errand := fun w h => by
  obtain ⟨k, hk, rfl⟩ := List.mem_map.mp h
  have hk2 := List.mem_range.mp hk
  exact List.mem_of_getElem? (i := 76 + k) (by rcases (show k = 0 ∨ k = 1 ∨ k = 2 ∨ k = 3 ∨ k = 4 ∨ k = 5 ∨ k = 6 ∨ k = 7 ∨ k = 8 ∨ k = 9 ∨ k = 10 ∨ k = 11 ∨ k = 12 ∨ k = 13 ∨ k = 14 ∨ k = 15 ∨ k = 16 ∨ k = 17 ∨ k = 18 ∨ k = 19 by omega) with rfl | rfl | rfl | rfl | rfl | rfl | rfl | rfl | rfl | rfl | rfl | rfl | rfl | rfl | rfl | rfl | rfl | rfl | rfl | rfl <;> rfl)
set_option maxRecDepth 100000 in
set_option maxHeartbeats 4000000 in
theorem tX11_errand_b22 {p : Program} {l : Launch} {e : Env} {s : State} {m : MethodId} {args : Array Value} {below : List Frame} {meth : Method} {c : Code} {A : Nat → Prop} {dC : Nat → ClassId} {dI : Nat → Nat → Nat} {cI : ClassId} {q q_refused q_tongue q_said q_fresh q_kept q_isKept q_text q_talk : Nat} {m_thrown : Int32} {m_size : Int32} {m_at : Int32} {m_start : Int32} {m_token : Int32} {m_value : Int64} {m_faultAt : Int32} {m_allowed : Int32} {m_firstPair : Int32} {m_secondPair : Int32} {m_above : Int64} {m_below : Int64} {m_refused : Nat → Int32} {m_tongue : Nat → Int32} {m_said : Nat → Int32} (C0 : gm_C p s m args meth c (dC, dI) [(cI, .int)] A gm_T RX11 cX11_errand 8 (some .int) wsX11_errand) {N : Nat} {out : Int32 × Int32 × (Nat → Int32) × (Nat → Int32)}    {H : Heap} {locs : List Loc} {ls : Array Slot} (h : fX11_errand_b22 N  m_thrown m_refused m_said = some out) (hH : gm_H (dC, dI) A s (wX11_errand cI q q_refused q_tongue q_said q_fresh q_kept q_isKept q_text q_talk m_thrown m_size m_at m_start m_token m_value m_faultAt m_allowed m_firstPair m_secondPair m_above m_below m_refused m_tongue m_said) H locs) (hl : lv_has ls 8 [(0, .ref q)]) : W p l e rX11_errand s m args below meth c H locs 0 0 (MQ below (gm_Q (dC, dI) [(cI, .int)] A (some (.int out.1)) (wX11_errand cI q q_refused q_tongue q_said q_fresh q_kept q_isKept q_text q_talk out.2.1 m_size m_at m_start m_token m_value m_faultAt m_allowed m_firstPair m_secondPair m_above m_below out.2.2.1 m_tongue out.2.2.2)) args s 0 0 A) (F0 m 22 ls []) := by
  obtain ⟨hx, hb, hml, hr, hown, hts, hA, hK, hX, hlocks⟩ := id C0
  unfold fX11_errand_b22 at h
  refine lv_aload_n hx hb dX11_errand_22 rfl (lv_at hl 0 rfl) ?_
  obtain ⟨o3, ho3, h⟩ := gm_bind_e h
  refine gm_callV (As := []) (rest := []) (n := 0) (ci := 11) (q0 := 0) C0 hH (mX11_badTen l dC dI cI q q_refused q_tongue q_fresh q_kept q_isKept q_text q_said q_talk m_thrown m_size m_at m_start m_token m_value m_faultAt m_allowed m_firstPair m_secondPair m_above m_below m_refused    ho3) gX11_errand_X11_badTen rfl (by decide +kernel) ⟨rfl, rfl, Nat.le_of_ble_eq_true rfl, Nat.le_of_ble_eq_true rfl⟩ gm_T_ok (fun _ => trivial) [0, 1] rfl rfl rfl [0] rfl rfl rfl rfl hl.1 rfl (Nat.le_of_ble_eq_true rfl) dX11_errand_23 ⟨Nat.zero_le _, Nat.zero_le _⟩ (fun H locs hH => ?_)
  have hH : gm_H (dC, dI) A s (wX11_errand cI q q_refused q_tongue q_said q_fresh q_kept q_isKept q_text q_talk m_thrown m_size m_at m_start m_token m_value m_faultAt m_allowed m_firstPair m_secondPair m_above m_below o3.2 m_tongue m_said) H locs := hH
  obtain rfl := Option.some.inj h
  exact gm_iret C0 hH dX11_errand_26
set_option maxRecDepth 100000 in
set_option maxHeartbeats 4000000 in
theorem tX11_errand_b228 {p : Program} {l : Launch} {e : Env} {s : State} {m : MethodId} {args : Array Value} {below : List Frame} {meth : Method} {c : Code} {A : Nat → Prop} {dC : Nat → ClassId} {dI : Nat → Nat → Nat} {cI : ClassId} {q q_refused q_tongue q_said q_fresh q_kept q_isKept q_text q_talk : Nat} {m_thrown : Int32} {m_size : Int32} {m_at : Int32} {m_start : Int32} {m_token : Int32} {m_value : Int64} {m_faultAt : Int32} {m_allowed : Int32} {m_firstPair : Int32} {m_secondPair : Int32} {m_above : Int64} {m_below : Int64} {m_refused : Nat → Int32} {m_tongue : Nat → Int32} {m_said : Nat → Int32} {x2 : Int32} {x3 : Int32} {x4 : Int32} (C0 : gm_C p s m args meth c (dC, dI) [(cI, .int)] A gm_T RX11 cX11_errand 8 (some .int) wsX11_errand) {N : Nat} {out : Int32 × Int32 × (Nat → Int32) × (Nat → Int32)}    {H : Heap} {locs : List Loc} {ls : Array Slot} (h : fX11_errand_b228 N  m_thrown m_refused m_said x2 x3 x4 = some out) (hH : gm_H (dC, dI) A s (wX11_errand cI q q_refused q_tongue q_said q_fresh q_kept q_isKept q_text q_talk m_thrown m_size m_at m_start m_token m_value m_faultAt m_allowed m_firstPair m_secondPair m_above m_below m_refused m_tongue m_said) H locs) (hl : lv_has ls 8 [(2, .int x2), (3, .int x3), (4, .int x4)]) : W p l e rX11_errand s m args below meth c H locs 0 0 (MQ below (gm_Q (dC, dI) [(cI, .int)] A (some (.int out.1)) (wX11_errand cI q q_refused q_tongue q_said q_fresh q_kept q_isKept q_text q_talk out.2.1 m_size m_at m_start m_token m_value m_faultAt m_allowed m_firstPair m_secondPair m_above m_below out.2.2.1 m_tongue out.2.2.2)) args s 0 0 A) (F0 m 228 ls []) := by
  obtain ⟨hx, hb, hml, hr, hown, hts, hA, hK, hX, hlocks⟩ := id C0
  unfold fX11_errand_b228 at h
  refine lv_iload_n hx hb dX11_errand_228 rfl (lv_at hl 0 rfl) ?_
  refine lv_if_ne (tgt := 237) hx hb dX11_errand_229 (by decide) (fun hc10 => ?_) (fun hc10 => ?_)
  · replace h := gm_neg hc10 h
    refine lv_iload_n hx hb dX11_errand_237 rfl (lv_at hl 1 rfl) ?_
    obtain rfl := Option.some.inj h
    exact gm_iret C0 hH dX11_errand_238
  · replace h := gm_pos hc10 h
    refine lv_iload hx hb dX11_errand_232 (lv_at hl 2 rfl) ?_
    refine lv_goto (tgt := 238) hx hb dX11_errand_234 (by decide) ?_
    obtain rfl := Option.some.inj h
    exact gm_iret C0 hH dX11_errand_238
set_option maxRecDepth 100000 in
set_option maxHeartbeats 4000000 in
theorem tX11_errand_b220 {p : Program} {l : Launch} {e : Env} {s : State} {m : MethodId} {args : Array Value} {below : List Frame} {meth : Method} {c : Code} {A : Nat → Prop} {dC : Nat → ClassId} {dI : Nat → Nat → Nat} {cI : ClassId} {q q_refused q_tongue q_said q_fresh q_kept q_isKept q_text q_talk : Nat} {m_thrown : Int32} {m_size : Int32} {m_at : Int32} {m_start : Int32} {m_token : Int32} {m_value : Int64} {m_faultAt : Int32} {m_allowed : Int32} {m_firstPair : Int32} {m_secondPair : Int32} {m_above : Int64} {m_below : Int64} {m_refused : Nat → Int32} {m_tongue : Nat → Int32} {m_said : Nat → Int32} {x1 : Int32} {x2 : Int32} {x3 : Int32} {x5 : Int32} {k0 : Int32} (C0 : gm_C p s m args meth c (dC, dI) [(cI, .int)] A gm_T RX11 cX11_errand 8 (some .int) wsX11_errand) {N : Nat} {out : Int32 × Int32 × (Nat → Int32) × (Nat → Int32)} {r96 : Int32 → Int32 → Int32 → Option (Int32 × Int32 × (Nat → Int32) × (Nat → Int32))} (hr96 : ∀ (x3 : Int32) (x4 : Int32) (x5 : Int32) (H : Heap) (locs : List Loc) (ls : Array Slot), r96 x3 x4 x5 = some out → gm_H (dC, dI) A s (wX11_errand cI q q_refused q_tongue q_said q_fresh q_kept q_isKept q_text q_talk m_thrown m_size m_at m_start m_token m_value m_faultAt m_allowed m_firstPair m_secondPair m_above m_below m_refused m_tongue m_said) H locs → lv_has ls 8 [(0, .ref q), (1, .int x1), (2, .int x2), (3, .int x3), (4, .int x4), (5, .int x5)] → W p l e rX11_errand s m args below meth c H locs 0 0 (MQ below (gm_Q (dC, dI) [(cI, .int)] A (some (.int out.1)) (wX11_errand cI q q_refused q_tongue q_said q_fresh q_kept q_isKept q_text q_talk out.2.1 m_size m_at m_start m_token m_value m_faultAt m_allowed m_firstPair m_secondPair m_above m_below out.2.2.1 m_tongue out.2.2.2)) args s 0 0 A) (F0 m 96 ls []))   {H : Heap} {locs : List Loc} {ls : Array Slot} (h : fX11_errand_b220 N r96 m_thrown m_refused m_tongue m_said x1 x2 x3 x5 k0 = some out) (hH : gm_H (dC, dI) A s (wX11_errand cI q q_refused q_tongue q_said q_fresh q_kept q_isKept q_text q_talk m_thrown m_size m_at m_start m_token m_value m_faultAt m_allowed m_firstPair m_secondPair m_above m_below m_refused m_tongue m_said) H locs) (hl : lv_has ls 8 [(0, .ref q), (1, .int x1), (2, .int x2), (3, .int x3), (5, .int x5)]) : W p l e rX11_errand s m args below meth c H locs 0 0 (MQ below (gm_Q (dC, dI) [(cI, .int)] A (some (.int out.1)) (wX11_errand cI q q_refused q_tongue q_said q_fresh q_kept q_isKept q_text q_talk out.2.1 m_size m_at m_start m_token m_value m_faultAt m_allowed m_firstPair m_secondPair m_above m_below out.2.2.1 m_tongue out.2.2.2)) args s 0 0 A) (F0 m 220 ls [.int k0]) := by
  obtain ⟨hx, hb, hml, hr, hown, hts, hA, hK, hX, hlocks⟩ := id C0
  unfold fX11_errand_b220 at h
  refine lv_istore (lv' := [(4, .int k0), (0, .ref q), (1, .int x1), (2, .int x2), (3, .int x3), (5, .int x5)]) hx hb dX11_errand_220 hl (by decide) rfl (fun ls hl => ?_)
  refine lv_iinc (v := (x5 + 1)) (lv' := [(5, .int (x5 + 1)), (4, .int k0), (0, .ref q), (1, .int x1), (2, .int x2), (3, .int x3)]) hx hb dX11_errand_222 hl (k := 5) rfl rfl (by decide) rfl (fun ls hl => ?_)
  refine lv_goto (tgt := 96) hx hb dX11_errand_225 (by decide) ?_
  exact hr96 _ _ _ _ _ _ h hH (lv_sub hl [2, 3, 4, 5, 1, 0] rfl)
set_option maxRecDepth 100000 in
set_option maxHeartbeats 4000000 in
theorem tX11_errand_b207 {p : Program} {l : Launch} {e : Env} {s : State} {m : MethodId} {args : Array Value} {below : List Frame} {meth : Method} {c : Code} {A : Nat → Prop} {dC : Nat → ClassId} {dI : Nat → Nat → Nat} {cI : ClassId} {q q_refused q_tongue q_said q_fresh q_kept q_isKept q_text q_talk : Nat} {m_thrown : Int32} {m_size : Int32} {m_at : Int32} {m_start : Int32} {m_token : Int32} {m_value : Int64} {m_faultAt : Int32} {m_allowed : Int32} {m_firstPair : Int32} {m_secondPair : Int32} {m_above : Int64} {m_below : Int64} {m_refused : Nat → Int32} {m_tongue : Nat → Int32} {m_said : Nat → Int32} {x1 : Int32} {x2 : Int32} {x4 : Int32} {x5 : Int32} {x6 : Int32} {x7 : Int32} {k0 : Int32} (C0 : gm_C p s m args meth c (dC, dI) [(cI, .int)] A gm_T RX11 cX11_errand 8 (some .int) wsX11_errand) {N : Nat} {out : Int32 × Int32 × (Nat → Int32) × (Nat → Int32)} {r96 : Int32 → Int32 → Int32 → Option (Int32 × Int32 × (Nat → Int32) × (Nat → Int32))} (hr96 : ∀ (x3 : Int32) (x4 : Int32) (x5 : Int32) (H : Heap) (locs : List Loc) (ls : Array Slot), r96 x3 x4 x5 = some out → gm_H (dC, dI) A s (wX11_errand cI q q_refused q_tongue q_said q_fresh q_kept q_isKept q_text q_talk m_thrown m_size m_at m_start m_token m_value m_faultAt m_allowed m_firstPair m_secondPair m_above m_below m_refused m_tongue m_said) H locs → lv_has ls 8 [(0, .ref q), (1, .int x1), (2, .int x2), (3, .int x3), (4, .int x4), (5, .int x5)] → W p l e rX11_errand s m args below meth c H locs 0 0 (MQ below (gm_Q (dC, dI) [(cI, .int)] A (some (.int out.1)) (wX11_errand cI q q_refused q_tongue q_said q_fresh q_kept q_isKept q_text q_talk out.2.1 m_size m_at m_start m_token m_value m_faultAt m_allowed m_firstPair m_secondPair m_above m_below out.2.2.1 m_tongue out.2.2.2)) args s 0 0 A) (F0 m 96 ls []))   {H : Heap} {locs : List Loc} {ls : Array Slot} (h : fX11_errand_b207 N r96 m_thrown m_refused m_tongue m_said x1 x2 x4 x5 x6 x7 k0 = some out) (hH : gm_H (dC, dI) A s (wX11_errand cI q q_refused q_tongue q_said q_fresh q_kept q_isKept q_text q_talk m_thrown m_size m_at m_start m_token m_value m_faultAt m_allowed m_firstPair m_secondPair m_above m_below m_refused m_tongue m_said) H locs) (hl : lv_has ls 8 [(0, .ref q), (1, .int x1), (2, .int x2), (4, .int x4), (5, .int x5), (6, .int x6), (7, .int x7)]) : W p l e rX11_errand s m args below meth c H locs 0 0 (MQ below (gm_Q (dC, dI) [(cI, .int)] A (some (.int out.1)) (wX11_errand cI q q_refused q_tongue q_said q_fresh q_kept q_isKept q_text q_talk out.2.1 m_size m_at m_start m_token m_value m_faultAt m_allowed m_firstPair m_secondPair m_above m_below out.2.2.1 m_tongue out.2.2.2)) args s 0 0 A) (F0 m 207 ls [.int k0]) := by
  obtain ⟨hx, hb, hml, hr, hown, hts, hA, hK, hX, hlocks⟩ := id C0
  unfold fX11_errand_b207 at h
  refine lv_istore_n (lv' := [(3, .int k0), (0, .ref q), (1, .int x1), (2, .int x2), (4, .int x4), (5, .int x5), (6, .int x6), (7, .int x7)]) hx hb dX11_errand_207 rfl hl (by decide) rfl (fun ls hl => ?_)
  refine lv_iload hx hb dX11_errand_208 (lv_at hl 7 rfl) ?_
  refine lv_if_eq (tgt := 218) hx hb dX11_errand_210 (by decide) (fun hc16 => ?_) (fun hc16 => ?_)
  · replace h := gm_pos hc16 h
    refine lv_iload hx hb dX11_errand_218 (lv_at hl 4 rfl) ?_
    exact tX11_errand_b220 C0 hr96 h hH (lv_sub hl [1, 2, 3, 0, 5] rfl)
  · replace h := gm_neg hc16 h
    refine lv_iload hx hb dX11_errand_213 (lv_at hl 6 rfl) ?_
    refine lv_goto (tgt := 220) hx hb dX11_errand_215 (by decide) ?_
    exact tX11_errand_b220 C0 hr96 h hH (lv_sub hl [1, 2, 3, 0, 5] rfl)
set_option maxRecDepth 100000 in
set_option maxHeartbeats 4000000 in
theorem tX11_errand_b194 {p : Program} {l : Launch} {e : Env} {s : State} {m : MethodId} {args : Array Value} {below : List Frame} {meth : Method} {c : Code} {A : Nat → Prop} {dC : Nat → ClassId} {dI : Nat → Nat → Nat} {cI : ClassId} {q q_refused q_tongue q_said q_fresh q_kept q_isKept q_text q_talk : Nat} {m_thrown : Int32} {m_size : Int32} {m_at : Int32} {m_start : Int32} {m_token : Int32} {m_value : Int64} {m_faultAt : Int32} {m_allowed : Int32} {m_firstPair : Int32} {m_secondPair : Int32} {m_above : Int64} {m_below : Int64} {m_refused : Nat → Int32} {m_tongue : Nat → Int32} {m_said : Nat → Int32} {x1 : Int32} {x2 : Int32} {x3 : Int32} {x4 : Int32} {x5 : Int32} {x6 : Int32} {k0 : Int32} (C0 : gm_C p s m args meth c (dC, dI) [(cI, .int)] A gm_T RX11 cX11_errand 8 (some .int) wsX11_errand) {N : Nat} {out : Int32 × Int32 × (Nat → Int32) × (Nat → Int32)} {r96 : Int32 → Int32 → Int32 → Option (Int32 × Int32 × (Nat → Int32) × (Nat → Int32))} (hr96 : ∀ (x3 : Int32) (x4 : Int32) (x5 : Int32) (H : Heap) (locs : List Loc) (ls : Array Slot), r96 x3 x4 x5 = some out → gm_H (dC, dI) A s (wX11_errand cI q q_refused q_tongue q_said q_fresh q_kept q_isKept q_text q_talk m_thrown m_size m_at m_start m_token m_value m_faultAt m_allowed m_firstPair m_secondPair m_above m_below m_refused m_tongue m_said) H locs → lv_has ls 8 [(0, .ref q), (1, .int x1), (2, .int x2), (3, .int x3), (4, .int x4), (5, .int x5)] → W p l e rX11_errand s m args below meth c H locs 0 0 (MQ below (gm_Q (dC, dI) [(cI, .int)] A (some (.int out.1)) (wX11_errand cI q q_refused q_tongue q_said q_fresh q_kept q_isKept q_text q_talk out.2.1 m_size m_at m_start m_token m_value m_faultAt m_allowed m_firstPair m_secondPair m_above m_below out.2.2.1 m_tongue out.2.2.2)) args s 0 0 A) (F0 m 96 ls []))   {H : Heap} {locs : List Loc} {ls : Array Slot} (h : fX11_errand_b194 N r96 m_thrown m_refused m_tongue m_said x1 x2 x3 x4 x5 x6 k0 = some out) (hH : gm_H (dC, dI) A s (wX11_errand cI q q_refused q_tongue q_said q_fresh q_kept q_isKept q_text q_talk m_thrown m_size m_at m_start m_token m_value m_faultAt m_allowed m_firstPair m_secondPair m_above m_below m_refused m_tongue m_said) H locs) (hl : lv_has ls 8 [(0, .ref q), (1, .int x1), (2, .int x2), (3, .int x3), (4, .int x4), (5, .int x5), (6, .int x6)]) : W p l e rX11_errand s m args below meth c H locs 0 0 (MQ below (gm_Q (dC, dI) [(cI, .int)] A (some (.int out.1)) (wX11_errand cI q q_refused q_tongue q_said q_fresh q_kept q_isKept q_text q_talk out.2.1 m_size m_at m_start m_token m_value m_faultAt m_allowed m_firstPair m_secondPair m_above m_below out.2.2.1 m_tongue out.2.2.2)) args s 0 0 A) (F0 m 194 ls [.int k0]) := by
  obtain ⟨hx, hb, hml, hr, hown, hts, hA, hK, hX, hlocks⟩ := id C0
  unfold fX11_errand_b194 at h
  refine lv_istore (lv' := [(7, .int k0), (0, .ref q), (1, .int x1), (2, .int x2), (3, .int x3), (4, .int x4), (5, .int x5), (6, .int x6)]) hx hb dX11_errand_194 hl (by decide) rfl (fun ls hl => ?_)
  refine lv_iload hx hb dX11_errand_196 (lv_at hl 0 rfl) ?_
  refine lv_if_eq (tgt := 206) hx hb dX11_errand_198 (by decide) (fun hc15 => ?_) (fun hc15 => ?_)
  · replace h := gm_pos hc15 h
    refine lv_iload_n hx hb dX11_errand_206 rfl (lv_at hl 4 rfl) ?_
    exact tX11_errand_b207 C0 hr96 h hH (lv_sub hl [1, 2, 3, 5, 6, 7, 0] rfl)
  · replace h := gm_neg hc15 h
    refine lv_iload hx hb dX11_errand_201 (lv_at hl 6 rfl) ?_
    refine lv_goto (tgt := 207) hx hb dX11_errand_203 (by decide) ?_
    exact tX11_errand_b207 C0 hr96 h hH (lv_sub hl [1, 2, 3, 5, 6, 7, 0] rfl)
set_option maxRecDepth 100000 in
set_option maxHeartbeats 4000000 in
theorem tX11_errand_b193 {p : Program} {l : Launch} {e : Env} {s : State} {m : MethodId} {args : Array Value} {below : List Frame} {meth : Method} {c : Code} {A : Nat → Prop} {dC : Nat → ClassId} {dI : Nat → Nat → Nat} {cI : ClassId} {q q_refused q_tongue q_said q_fresh q_kept q_isKept q_text q_talk : Nat} {m_thrown : Int32} {m_size : Int32} {m_at : Int32} {m_start : Int32} {m_token : Int32} {m_value : Int64} {m_faultAt : Int32} {m_allowed : Int32} {m_firstPair : Int32} {m_secondPair : Int32} {m_above : Int64} {m_below : Int64} {m_refused : Nat → Int32} {m_tongue : Nat → Int32} {m_said : Nat → Int32} {x1 : Int32} {x2 : Int32} {x3 : Int32} {x4 : Int32} {x5 : Int32} {x6 : Int32} (C0 : gm_C p s m args meth c (dC, dI) [(cI, .int)] A gm_T RX11 cX11_errand 8 (some .int) wsX11_errand) {N : Nat} {out : Int32 × Int32 × (Nat → Int32) × (Nat → Int32)} {r96 : Int32 → Int32 → Int32 → Option (Int32 × Int32 × (Nat → Int32) × (Nat → Int32))} (hr96 : ∀ (x3 : Int32) (x4 : Int32) (x5 : Int32) (H : Heap) (locs : List Loc) (ls : Array Slot), r96 x3 x4 x5 = some out → gm_H (dC, dI) A s (wX11_errand cI q q_refused q_tongue q_said q_fresh q_kept q_isKept q_text q_talk m_thrown m_size m_at m_start m_token m_value m_faultAt m_allowed m_firstPair m_secondPair m_above m_below m_refused m_tongue m_said) H locs → lv_has ls 8 [(0, .ref q), (1, .int x1), (2, .int x2), (3, .int x3), (4, .int x4), (5, .int x5)] → W p l e rX11_errand s m args below meth c H locs 0 0 (MQ below (gm_Q (dC, dI) [(cI, .int)] A (some (.int out.1)) (wX11_errand cI q q_refused q_tongue q_said q_fresh q_kept q_isKept q_text q_talk out.2.1 m_size m_at m_start m_token m_value m_faultAt m_allowed m_firstPair m_secondPair m_above m_below out.2.2.1 m_tongue out.2.2.2)) args s 0 0 A) (F0 m 96 ls []))   {H : Heap} {locs : List Loc} {ls : Array Slot} (h : fX11_errand_b193 N r96 m_thrown m_refused m_tongue m_said x1 x2 x3 x4 x5 x6 = some out) (hH : gm_H (dC, dI) A s (wX11_errand cI q q_refused q_tongue q_said q_fresh q_kept q_isKept q_text q_talk m_thrown m_size m_at m_start m_token m_value m_faultAt m_allowed m_firstPair m_secondPair m_above m_below m_refused m_tongue m_said) H locs) (hl : lv_has ls 8 [(0, .ref q), (1, .int x1), (2, .int x2), (3, .int x3), (4, .int x4), (5, .int x5), (6, .int x6)]) : W p l e rX11_errand s m args below meth c H locs 0 0 (MQ below (gm_Q (dC, dI) [(cI, .int)] A (some (.int out.1)) (wX11_errand cI q q_refused q_tongue q_said q_fresh q_kept q_isKept q_text q_talk out.2.1 m_size m_at m_start m_token m_value m_faultAt m_allowed m_firstPair m_secondPair m_above m_below out.2.2.1 m_tongue out.2.2.2)) args s 0 0 A) (F0 m 193 ls []) := by
  obtain ⟨hx, hb, hml, hr, hown, hts, hA, hK, hX, hlocks⟩ := id C0
  unfold fX11_errand_b193 at h
  refine lv_iconst (v := 0) hx hb dX11_errand_193 (by decide) ?_
  exact tX11_errand_b194 C0 hr96 h hH (lv_sub hl [0, 1, 2, 3, 4, 5, 6] rfl)
set_option maxRecDepth 100000 in
set_option maxHeartbeats 4000000 in
theorem tX11_errand_b189 {p : Program} {l : Launch} {e : Env} {s : State} {m : MethodId} {args : Array Value} {below : List Frame} {meth : Method} {c : Code} {A : Nat → Prop} {dC : Nat → ClassId} {dI : Nat → Nat → Nat} {cI : ClassId} {q q_refused q_tongue q_said q_fresh q_kept q_isKept q_text q_talk : Nat} {m_thrown : Int32} {m_size : Int32} {m_at : Int32} {m_start : Int32} {m_token : Int32} {m_value : Int64} {m_faultAt : Int32} {m_allowed : Int32} {m_firstPair : Int32} {m_secondPair : Int32} {m_above : Int64} {m_below : Int64} {m_refused : Nat → Int32} {m_tongue : Nat → Int32} {m_said : Nat → Int32} {x1 : Int32} {x2 : Int32} {x3 : Int32} {x4 : Int32} {x5 : Int32} {x6 : Int32} (C0 : gm_C p s m args meth c (dC, dI) [(cI, .int)] A gm_T RX11 cX11_errand 8 (some .int) wsX11_errand) {N : Nat} {out : Int32 × Int32 × (Nat → Int32) × (Nat → Int32)} {r96 : Int32 → Int32 → Int32 → Option (Int32 × Int32 × (Nat → Int32) × (Nat → Int32))} (hr96 : ∀ (x3 : Int32) (x4 : Int32) (x5 : Int32) (H : Heap) (locs : List Loc) (ls : Array Slot), r96 x3 x4 x5 = some out → gm_H (dC, dI) A s (wX11_errand cI q q_refused q_tongue q_said q_fresh q_kept q_isKept q_text q_talk m_thrown m_size m_at m_start m_token m_value m_faultAt m_allowed m_firstPair m_secondPair m_above m_below m_refused m_tongue m_said) H locs → lv_has ls 8 [(0, .ref q), (1, .int x1), (2, .int x2), (3, .int x3), (4, .int x4), (5, .int x5)] → W p l e rX11_errand s m args below meth c H locs 0 0 (MQ below (gm_Q (dC, dI) [(cI, .int)] A (some (.int out.1)) (wX11_errand cI q q_refused q_tongue q_said q_fresh q_kept q_isKept q_text q_talk out.2.1 m_size m_at m_start m_token m_value m_faultAt m_allowed m_firstPair m_secondPair m_above m_below out.2.2.1 m_tongue out.2.2.2)) args s 0 0 A) (F0 m 96 ls []))   {H : Heap} {locs : List Loc} {ls : Array Slot} (h : fX11_errand_b189 N r96 m_thrown m_refused m_tongue m_said x1 x2 x3 x4 x5 x6 = some out) (hH : gm_H (dC, dI) A s (wX11_errand cI q q_refused q_tongue q_said q_fresh q_kept q_isKept q_text q_talk m_thrown m_size m_at m_start m_token m_value m_faultAt m_allowed m_firstPair m_secondPair m_above m_below m_refused m_tongue m_said) H locs) (hl : lv_has ls 8 [(0, .ref q), (1, .int x1), (2, .int x2), (3, .int x3), (4, .int x4), (5, .int x5), (6, .int x6)]) : W p l e rX11_errand s m args below meth c H locs 0 0 (MQ below (gm_Q (dC, dI) [(cI, .int)] A (some (.int out.1)) (wX11_errand cI q q_refused q_tongue q_said q_fresh q_kept q_isKept q_text q_talk out.2.1 m_size m_at m_start m_token m_value m_faultAt m_allowed m_firstPair m_secondPair m_above m_below out.2.2.1 m_tongue out.2.2.2)) args s 0 0 A) (F0 m 189 ls []) := by
  obtain ⟨hx, hb, hml, hr, hown, hts, hA, hK, hX, hlocks⟩ := id C0
  unfold fX11_errand_b189 at h
  refine lv_iconst (v := 1) hx hb dX11_errand_189 (by decide) ?_
  refine lv_goto (tgt := 194) hx hb dX11_errand_190 (by decide) ?_
  exact tX11_errand_b194 C0 hr96 h hH (lv_sub hl [0, 1, 2, 3, 4, 5, 6] rfl)
set_option maxRecDepth 100000 in
set_option maxHeartbeats 4000000 in
theorem tX11_errand_b164 {p : Program} {l : Launch} {e : Env} {s : State} {m : MethodId} {args : Array Value} {below : List Frame} {meth : Method} {c : Code} {A : Nat → Prop} {dC : Nat → ClassId} {dI : Nat → Nat → Nat} {cI : ClassId} {q q_refused q_tongue q_said q_fresh q_kept q_isKept q_text q_talk : Nat} {m_thrown : Int32} {m_size : Int32} {m_at : Int32} {m_start : Int32} {m_token : Int32} {m_value : Int64} {m_faultAt : Int32} {m_allowed : Int32} {m_firstPair : Int32} {m_secondPair : Int32} {m_above : Int64} {m_below : Int64} {m_refused : Nat → Int32} {m_tongue : Nat → Int32} {m_said : Nat → Int32} {x1 : Int32} {x2 : Int32} {x3 : Int32} {x4 : Int32} {x5 : Int32} {x6 : Int32} (C0 : gm_C p s m args meth c (dC, dI) [(cI, .int)] A gm_T RX11 cX11_errand 8 (some .int) wsX11_errand) {N : Nat} {out : Int32 × Int32 × (Nat → Int32) × (Nat → Int32)} {r96 : Int32 → Int32 → Int32 → Option (Int32 × Int32 × (Nat → Int32) × (Nat → Int32))} (hr96 : ∀ (x3 : Int32) (x4 : Int32) (x5 : Int32) (H : Heap) (locs : List Loc) (ls : Array Slot), r96 x3 x4 x5 = some out → gm_H (dC, dI) A s (wX11_errand cI q q_refused q_tongue q_said q_fresh q_kept q_isKept q_text q_talk m_thrown m_size m_at m_start m_token m_value m_faultAt m_allowed m_firstPair m_secondPair m_above m_below m_refused m_tongue m_said) H locs → lv_has ls 8 [(0, .ref q), (1, .int x1), (2, .int x2), (3, .int x3), (4, .int x4), (5, .int x5)] → W p l e rX11_errand s m args below meth c H locs 0 0 (MQ below (gm_Q (dC, dI) [(cI, .int)] A (some (.int out.1)) (wX11_errand cI q q_refused q_tongue q_said q_fresh q_kept q_isKept q_text q_talk out.2.1 m_size m_at m_start m_token m_value m_faultAt m_allowed m_firstPair m_secondPair m_above m_below out.2.2.1 m_tongue out.2.2.2)) args s 0 0 A) (F0 m 96 ls []))   {H : Heap} {locs : List Loc} {ls : Array Slot} (h : fX11_errand_b164 N r96 m_thrown m_refused m_tongue m_said x1 x2 x3 x4 x5 x6 = some out) (hH : gm_H (dC, dI) A s (wX11_errand cI q q_refused q_tongue q_said q_fresh q_kept q_isKept q_text q_talk m_thrown m_size m_at m_start m_token m_value m_faultAt m_allowed m_firstPair m_secondPair m_above m_below m_refused m_tongue m_said) H locs) (hl : lv_has ls 8 [(0, .ref q), (1, .int x1), (2, .int x2), (3, .int x3), (4, .int x4), (5, .int x5), (6, .int x6)]) : W p l e rX11_errand s m args below meth c H locs 0 0 (MQ below (gm_Q (dC, dI) [(cI, .int)] A (some (.int out.1)) (wX11_errand cI q q_refused q_tongue q_said q_fresh q_kept q_isKept q_text q_talk out.2.1 m_size m_at m_start m_token m_value m_faultAt m_allowed m_firstPair m_secondPair m_above m_below out.2.2.1 m_tongue out.2.2.2)) args s 0 0 A) (F0 m 164 ls []) := by
  obtain ⟨hx, hb, hml, hr, hown, hts, hA, hK, hX, hlocks⟩ := id C0
  unfold fX11_errand_b164 at h
  refine lv_iload_n hx hb dX11_errand_164 rfl (lv_at hl 1 rfl) ?_
  refine lv_aload_n hx hb dX11_errand_165 rfl (lv_at hl 0 rfl) ?_
  refine lv_iload hx hb dX11_errand_166 (lv_at hl 5 rfl) ?_
  obtain ⟨o13, ho13, h⟩ := gm_bind_e h
  refine gm_callV (As := [.int x5]) (rest := [.int x1]) (n := 1) (ci := 11) (q0 := 0) C0 hH (mX11_saidBy l dC dI cI q q_tongue q_said q_refused q_fresh q_kept q_isKept q_text q_talk m_thrown m_size m_at m_start m_token m_value m_faultAt m_allowed m_firstPair m_secondPair m_above m_below m_tongue m_said x5   ho13) gX11_errand_X11_saidBy rfl (by decide +kernel) ⟨rfl, rfl, Nat.le_of_ble_eq_true rfl, Nat.le_of_ble_eq_true rfl⟩ gm_T_ok (fun _ => trivial) [0, 2, 3] rfl rfl rfl [0] rfl rfl rfl rfl hl.1 rfl (Nat.le_of_ble_eq_true rfl) dX11_errand_168 ⟨Nat.zero_le _, Nat.zero_le _⟩ (fun H locs hH => ?_)
  have hH : gm_H (dC, dI) A s (wX11_errand cI q q_refused q_tongue q_said q_fresh q_kept q_isKept q_text q_talk m_thrown m_size m_at m_start m_token m_value m_faultAt m_allowed m_firstPair m_secondPair m_above m_below m_refused m_tongue m_said) H locs := hH
  refine lv_iconst (v := (-1)) hx hb dX11_errand_171 (by decide) ?_
  refine lv_ixor hx hb dX11_errand_172 ?_
  refine lv_iand hx hb dX11_errand_173 ?_
  refine lv_if_ne (tgt := 193) hx hb dX11_errand_174 (by decide) (fun hc14 => ?_) (fun hc14 => ?_)
  · replace h := gm_neg hc14 h
    exact tX11_errand_b193 C0 hr96 h hH (lv_sub hl [0, 1, 2, 3, 4, 5, 6] rfl)
  · replace h := gm_pos hc14 h
    refine lv_iload_n hx hb dX11_errand_177 rfl (lv_at hl 3 rfl) ?_
    refine lv_iconst (v := (-1)) hx hb dX11_errand_178 (by decide) ?_
    refine lv_icmp_eq (tgt := 189) hx hb dX11_errand_179 (by decide) (fun hc17 => ?_) (fun hc17 => ?_)
    · replace h := gm_pos hc17 h
      exact tX11_errand_b189 C0 hr96 h hH (lv_sub hl [0, 1, 2, 3, 4, 5, 6] rfl)
    · replace h := gm_neg hc17 h
      refine lv_iload hx hb dX11_errand_182 (lv_at hl 6 rfl) ?_
      refine lv_iload hx hb dX11_errand_184 (lv_at hl 4 rfl) ?_
      refine lv_icmp_ge (tgt := 193) hx hb dX11_errand_186 (by decide) (fun hc18 => ?_) (fun hc18 => ?_)
      · replace h := gm_pos hc18 h
        exact tX11_errand_b193 C0 hr96 h hH (lv_sub hl [0, 1, 2, 3, 4, 5, 6] rfl)
      · replace h := gm_neg hc18 h
        exact tX11_errand_b189 C0 hr96 h hH (lv_sub hl [0, 1, 2, 3, 4, 5, 6] rfl)
set_option maxRecDepth 100000 in
set_option maxHeartbeats 4000000 in
theorem tX11_errand_b155 {p : Program} {l : Launch} {e : Env} {s : State} {m : MethodId} {args : Array Value} {below : List Frame} {meth : Method} {c : Code} {A : Nat → Prop} {dC : Nat → ClassId} {dI : Nat → Nat → Nat} {cI : ClassId} {q q_refused q_tongue q_said q_fresh q_kept q_isKept q_text q_talk : Nat} {m_thrown : Int32} {m_size : Int32} {m_at : Int32} {m_start : Int32} {m_token : Int32} {m_value : Int64} {m_faultAt : Int32} {m_allowed : Int32} {m_firstPair : Int32} {m_secondPair : Int32} {m_above : Int64} {m_below : Int64} {m_refused : Nat → Int32} {m_tongue : Nat → Int32} {m_said : Nat → Int32} {x1 : Int32} {x2 : Int32} {x3 : Int32} {x4 : Int32} {x5 : Int32} {x7 : Int32} {k0 : Int32} {k1 : Int32} (C0 : gm_C p s m args meth c (dC, dI) [(cI, .int)] A gm_T RX11 cX11_errand 8 (some .int) wsX11_errand) {N : Nat} {out : Int32 × Int32 × (Nat → Int32) × (Nat → Int32)} {r96 : Int32 → Int32 → Int32 → Option (Int32 × Int32 × (Nat → Int32) × (Nat → Int32))} (hr96 : ∀ (x3 : Int32) (x4 : Int32) (x5 : Int32) (H : Heap) (locs : List Loc) (ls : Array Slot), r96 x3 x4 x5 = some out → gm_H (dC, dI) A s (wX11_errand cI q q_refused q_tongue q_said q_fresh q_kept q_isKept q_text q_talk m_thrown m_size m_at m_start m_token m_value m_faultAt m_allowed m_firstPair m_secondPair m_above m_below m_refused m_tongue m_said) H locs → lv_has ls 8 [(0, .ref q), (1, .int x1), (2, .int x2), (3, .int x3), (4, .int x4), (5, .int x5)] → W p l e rX11_errand s m args below meth c H locs 0 0 (MQ below (gm_Q (dC, dI) [(cI, .int)] A (some (.int out.1)) (wX11_errand cI q q_refused q_tongue q_said q_fresh q_kept q_isKept q_text q_talk out.2.1 m_size m_at m_start m_token m_value m_faultAt m_allowed m_firstPair m_secondPair m_above m_below out.2.2.1 m_tongue out.2.2.2)) args s 0 0 A) (F0 m 96 ls [])) {r115 : Int32 → Int32 → Option (Int32 × Int32 × (Nat → Int32) × (Nat → Int32))} (hr115 : ∀ (x6 : Int32) (x7 : Int32) (H : Heap) (locs : List Loc) (ls : Array Slot), r115 x6 x7 = some out → gm_H (dC, dI) A s (wX11_errand cI q q_refused q_tongue q_said q_fresh q_kept q_isKept q_text q_talk m_thrown m_size m_at m_start m_token m_value m_faultAt m_allowed m_firstPair m_secondPair m_above m_below m_refused m_tongue m_said) H locs → lv_has ls 8 [(0, .ref q), (1, .int x1), (2, .int x2), (3, .int x3), (4, .int x4), (5, .int x5), (6, .int x6), (7, .int x7)] → W p l e rX11_errand s m args below meth c H locs 0 0 (MQ below (gm_Q (dC, dI) [(cI, .int)] A (some (.int out.1)) (wX11_errand cI q q_refused q_tongue q_said q_fresh q_kept q_isKept q_text q_talk out.2.1 m_size m_at m_start m_token m_value m_faultAt m_allowed m_firstPair m_secondPair m_above m_below out.2.2.1 m_tongue out.2.2.2)) args s 0 0 A) (F0 m 115 ls []))   {H : Heap} {locs : List Loc} {ls : Array Slot} (h : fX11_errand_b155 N r96 r115 m_thrown m_refused m_tongue m_said x1 x2 x3 x4 x5 x7 k0 k1 = some out) (hH : gm_H (dC, dI) A s (wX11_errand cI q q_refused q_tongue q_said q_fresh q_kept q_isKept q_text q_talk m_thrown m_size m_at m_start m_token m_value m_faultAt m_allowed m_firstPair m_secondPair m_above m_below m_refused m_tongue m_said) H locs) (hl : lv_has ls 8 [(0, .ref q), (1, .int x1), (2, .int x2), (3, .int x3), (4, .int x4), (5, .int x5), (7, .int x7)]) : W p l e rX11_errand s m args below meth c H locs 0 0 (MQ below (gm_Q (dC, dI) [(cI, .int)] A (some (.int out.1)) (wX11_errand cI q q_refused q_tongue q_said q_fresh q_kept q_isKept q_text q_talk out.2.1 m_size m_at m_start m_token m_value m_faultAt m_allowed m_firstPair m_secondPair m_above m_below out.2.2.1 m_tongue out.2.2.2)) args s 0 0 A) (F0 m 155 ls [.int k1, .int k0]) := by
  obtain ⟨hx, hb, hml, hr, hown, hts, hA, hK, hX, hlocks⟩ := id C0
  unfold fX11_errand_b155 at h
  refine lv_iadd hx hb dX11_errand_155 ?_
  refine lv_topi (fun v21 ev21 => ?_)
  replace h := gm_let_e ev21 h
  refine lv_istore (lv' := [(6, .int v21), (0, .ref q), (1, .int x1), (2, .int x2), (3, .int x3), (4, .int x4), (5, .int x5), (7, .int x7)]) hx hb dX11_errand_156 hl (by decide) rfl (fun ls hl => ?_)
  refine lv_iinc (v := (x7 + 1)) (lv' := [(7, .int (x7 + 1)), (6, .int v21), (0, .ref q), (1, .int x1), (2, .int x2), (3, .int x3), (4, .int x4), (5, .int x5)]) hx hb dX11_errand_158 hl (k := 7) rfl rfl (by decide) rfl (fun ls hl => ?_)
  refine lv_goto (tgt := 115) hx hb dX11_errand_161 (by decide) ?_
  exact hr115 _ _ _ _ _ h hH (lv_sub hl [2, 3, 4, 5, 6, 7, 1, 0] rfl)
set_option maxRecDepth 100000 in
set_option maxHeartbeats 4000000 in
theorem tX11_errand_b115 {p : Program} {l : Launch} {e : Env} {s : State} {m : MethodId} {args : Array Value} {below : List Frame} {meth : Method} {c : Code} {A : Nat → Prop} {dC : Nat → ClassId} {dI : Nat → Nat → Nat} {cI : ClassId} {q q_refused q_tongue q_said q_fresh q_kept q_isKept q_text q_talk : Nat} {m_thrown : Int32} {m_size : Int32} {m_at : Int32} {m_start : Int32} {m_token : Int32} {m_value : Int64} {m_faultAt : Int32} {m_allowed : Int32} {m_firstPair : Int32} {m_secondPair : Int32} {m_above : Int64} {m_below : Int64} {m_refused : Nat → Int32} {m_tongue : Nat → Int32} {m_said : Nat → Int32} {x1 : Int32} {x2 : Int32} {x3 : Int32} {x4 : Int32} {x5 : Int32} (C0 : gm_C p s m args meth c (dC, dI) [(cI, .int)] A gm_T RX11 cX11_errand 8 (some .int) wsX11_errand) {N : Nat} {out : Int32 × Int32 × (Nat → Int32) × (Nat → Int32)} {r96 : Int32 → Int32 → Int32 → Option (Int32 × Int32 × (Nat → Int32) × (Nat → Int32))} (hr96 : ∀ (x3 : Int32) (x4 : Int32) (x5 : Int32) (H : Heap) (locs : List Loc) (ls : Array Slot), r96 x3 x4 x5 = some out → gm_H (dC, dI) A s (wX11_errand cI q q_refused q_tongue q_said q_fresh q_kept q_isKept q_text q_talk m_thrown m_size m_at m_start m_token m_value m_faultAt m_allowed m_firstPair m_secondPair m_above m_below m_refused m_tongue m_said) H locs → lv_has ls 8 [(0, .ref q), (1, .int x1), (2, .int x2), (3, .int x3), (4, .int x4), (5, .int x5)] → W p l e rX11_errand s m args below meth c H locs 0 0 (MQ below (gm_Q (dC, dI) [(cI, .int)] A (some (.int out.1)) (wX11_errand cI q q_refused q_tongue q_said q_fresh q_kept q_isKept q_text q_talk out.2.1 m_size m_at m_start m_token m_value m_faultAt m_allowed m_firstPair m_secondPair m_above m_below out.2.2.1 m_tongue out.2.2.2)) args s 0 0 A) (F0 m 96 ls []))  : ∀ (n : Nat), ∀ (x6 : Int32) (x7 : Int32) (H : Heap) (locs : List Loc) (ls : Array Slot), (gm_fix (fX11_errand_b115_body N r96 m_thrown m_refused m_tongue m_said x1 x2 x3 x4 x5) (fun _ _ => none) n) x6 x7 = some out → gm_H (dC, dI) A s (wX11_errand cI q q_refused q_tongue q_said q_fresh q_kept q_isKept q_text q_talk m_thrown m_size m_at m_start m_token m_value m_faultAt m_allowed m_firstPair m_secondPair m_above m_below m_refused m_tongue m_said) H locs → lv_has ls 8 [(0, .ref q), (1, .int x1), (2, .int x2), (3, .int x3), (4, .int x4), (5, .int x5), (6, .int x6), (7, .int x7)] → W p l e rX11_errand s m args below meth c H locs 0 0 (MQ below (gm_Q (dC, dI) [(cI, .int)] A (some (.int out.1)) (wX11_errand cI q q_refused q_tongue q_said q_fresh q_kept q_isKept q_text q_talk out.2.1 m_size m_at m_start m_token m_value m_faultAt m_allowed m_firstPair m_secondPair m_above m_below out.2.2.1 m_tongue out.2.2.2)) args s 0 0 A) (F0 m 115 ls []) := by
  obtain ⟨hx, hb, hml, hr, hown, hts, hA, hK, hX, hlocks⟩ := id C0
  intro n
  induction n with
  | zero =>
    intro x6 x7 H locs ls h hH hl
    cases h
  | succ n hr115 =>
    intro x6 x7 H locs ls h hH hl
    rw [gm_fix_s] at h
    unfold fX11_errand_b115_body at h
    refine lv_iload hx hb dX11_errand_115 (lv_at hl 7 rfl) ?_
    refine lv_aload_n hx hb dX11_errand_117 rfl (lv_at hl 0 rfl) ?_
    refine gm_get (ci := 11) C0 hH inX11_errand_X11 0 2 2 rfl rfl (by decide) rfl rfl dX11_errand_118 ?_
    refine lv_iconst (v := 0) hx hb dX11_errand_121 (by decide) ?_
    obtain ⟨hi11, h⟩ := gm_chk_e h
    refine gm_iald C0 hH hi11 2 0 rfl rfl dX11_errand_122 ?_
    refine lv_icmp_ge (tgt := 164) hx hb dX11_errand_123 (by decide) (fun hc12 => ?_) (fun hc12 => ?_)
    · replace h := gm_pos hc12 h
      exact tX11_errand_b164 C0 hr96 h hH (lv_sub hl [0, 1, 2, 3, 4, 5, 6] rfl)
    · replace h := gm_neg hc12 h
      refine lv_iload hx hb dX11_errand_126 (lv_at hl 6 rfl) ?_
      refine lv_iload hx hb dX11_errand_128 (lv_at hl 5 rfl) ?_
      refine lv_iload hx hb dX11_errand_130 (lv_at hl 7 rfl) ?_
      obtain ⟨o19, ho19, h⟩ := gm_bind_e h
      refine gm_callS (As := [.int x5, .int x7]) (rest := [.int x6]) (n := 2) C0 hH (mX11_has l dC dI    x5 x7   ho19) gX11_errand_X11_has rfl (by decide +kernel) ⟨rfl, rfl, Nat.le_of_ble_eq_true rfl, Nat.le_of_ble_eq_true rfl⟩ gm_T_ok (fun _ => trivial) [] rfl rfl rfl [] rfl rfl hl.1 rfl (Nat.le_of_ble_eq_true rfl) dX11_errand_132 ⟨Nat.zero_le _, Nat.zero_le _⟩ (fun H locs hH => ?_)
      have hH : gm_H (dC, dI) A s (wX11_errand cI q q_refused q_tongue q_said q_fresh q_kept q_isKept q_text q_talk m_thrown m_size m_at m_start m_token m_value m_faultAt m_allowed m_firstPair m_secondPair m_above m_below m_refused m_tongue m_said) H locs := hH
      refine lv_if_eq (tgt := 154) hx hb dX11_errand_135 (by decide) (fun hc20 => ?_) (fun hc20 => ?_)
      · replace h := gm_pos hc20 h
        refine lv_iconst (v := 0) hx hb dX11_errand_154 (by decide) ?_
        exact tX11_errand_b155 C0 hr96 hr115 h hH (lv_sub hl [0, 1, 2, 3, 4, 5, 7] rfl)
      · replace h := gm_neg hc20 h
        refine lv_aload_n hx hb dX11_errand_138 rfl (lv_at hl 0 rfl) ?_
        refine gm_get (ci := 11) C0 hH inX11_errand_X11 0 2 2 rfl rfl (by decide) rfl rfl dX11_errand_139 ?_
        refine lv_iconst (v := 5) hx hb dX11_errand_142 (by decide) ?_
        refine lv_iconst (v := 3) hx hb dX11_errand_143 (by decide) ?_
        refine lv_iload hx hb dX11_errand_144 (lv_at hl 7 rfl) ?_
        refine lv_imul hx hb dX11_errand_146 ?_
        refine lv_iadd hx hb dX11_errand_147 ?_
        refine lv_iconst (v := 2) hx hb dX11_errand_148 (by decide) ?_
        refine lv_iadd hx hb dX11_errand_149 ?_
        obtain ⟨hi22, h⟩ := gm_chk_e h
        refine gm_iald C0 hH hi22 2 0 rfl rfl dX11_errand_150 ?_
        refine lv_goto (tgt := 155) hx hb dX11_errand_151 (by decide) ?_
        exact tX11_errand_b155 C0 hr96 hr115 h hH (lv_sub hl [0, 1, 2, 3, 4, 5, 7] rfl)
set_option maxRecDepth 100000 in
set_option maxHeartbeats 4000000 in
theorem tX11_errand_b96 {p : Program} {l : Launch} {e : Env} {s : State} {m : MethodId} {args : Array Value} {below : List Frame} {meth : Method} {c : Code} {A : Nat → Prop} {dC : Nat → ClassId} {dI : Nat → Nat → Nat} {cI : ClassId} {q q_refused q_tongue q_said q_fresh q_kept q_isKept q_text q_talk : Nat} {m_thrown : Int32} {m_size : Int32} {m_at : Int32} {m_start : Int32} {m_token : Int32} {m_value : Int64} {m_faultAt : Int32} {m_allowed : Int32} {m_firstPair : Int32} {m_secondPair : Int32} {m_above : Int64} {m_below : Int64} {m_refused : Nat → Int32} {m_tongue : Nat → Int32} {m_said : Nat → Int32} {x1 : Int32} {x2 : Int32} (C0 : gm_C p s m args meth c (dC, dI) [(cI, .int)] A gm_T RX11 cX11_errand 8 (some .int) wsX11_errand) {N : Nat} {out : Int32 × Int32 × (Nat → Int32) × (Nat → Int32)}   : ∀ (n : Nat), ∀ (x3 : Int32) (x4 : Int32) (x5 : Int32) (H : Heap) (locs : List Loc) (ls : Array Slot), (gm_fix (fX11_errand_b96_body N  m_thrown m_refused m_tongue m_said x1 x2) (fun _ _ _ => none) n) x3 x4 x5 = some out → gm_H (dC, dI) A s (wX11_errand cI q q_refused q_tongue q_said q_fresh q_kept q_isKept q_text q_talk m_thrown m_size m_at m_start m_token m_value m_faultAt m_allowed m_firstPair m_secondPair m_above m_below m_refused m_tongue m_said) H locs → lv_has ls 8 [(0, .ref q), (1, .int x1), (2, .int x2), (3, .int x3), (4, .int x4), (5, .int x5)] → W p l e rX11_errand s m args below meth c H locs 0 0 (MQ below (gm_Q (dC, dI) [(cI, .int)] A (some (.int out.1)) (wX11_errand cI q q_refused q_tongue q_said q_fresh q_kept q_isKept q_text q_talk out.2.1 m_size m_at m_start m_token m_value m_faultAt m_allowed m_firstPair m_secondPair m_above m_below out.2.2.1 m_tongue out.2.2.2)) args s 0 0 A) (F0 m 96 ls []) := by
  obtain ⟨hx, hb, hml, hr, hown, hts, hA, hK, hX, hlocks⟩ := id C0
  intro n
  induction n with
  | zero =>
    intro x3 x4 x5 H locs ls h hH hl
    cases h
  | succ n hr96 =>
    intro x3 x4 x5 H locs ls h hH hl
    rw [gm_fix_s] at h
    unfold fX11_errand_b96_body at h
    refine lv_iload hx hb dX11_errand_96 (lv_at hl 5 rfl) ?_
    refine lv_iconst (v := 1) hx hb dX11_errand_98 (by decide) ?_
    refine lv_aload_n hx hb dX11_errand_99 rfl (lv_at hl 0 rfl) ?_
    refine gm_get (ci := 11) C0 hH inX11_errand_X11 0 2 2 rfl rfl (by decide) rfl rfl dX11_errand_100 ?_
    refine lv_iconst (v := 0) hx hb dX11_errand_103 (by decide) ?_
    obtain ⟨hi8, h⟩ := gm_chk_e h
    refine gm_iald C0 hH hi8 2 0 rfl rfl dX11_errand_104 ?_
    refine lv_ishl hx hb dX11_errand_105 ?_
    refine lv_icmp_ge (tgt := 228) hx hb dX11_errand_106 (by decide) (fun hc9 => ?_) (fun hc9 => ?_)
    · replace h := gm_pos hc9 h
      exact tX11_errand_b228 C0  h hH (lv_sub hl [2, 3, 4] rfl)
    · replace h := gm_neg hc9 h
      refine lv_iconst (v := 0) hx hb dX11_errand_109 (by decide) ?_
      refine lv_istore (lv' := [(6, .int 0), (0, .ref q), (1, .int x1), (2, .int x2), (3, .int x3), (4, .int x4), (5, .int x5)]) hx hb dX11_errand_110 hl (by decide) rfl (fun ls hl => ?_)
      refine lv_iconst (v := 0) hx hb dX11_errand_112 (by decide) ?_
      refine lv_istore (lv' := [(7, .int 0), (6, .int 0), (0, .ref q), (1, .int x1), (2, .int x2), (3, .int x3), (4, .int x4), (5, .int x5)]) hx hb dX11_errand_113 hl (by decide) rfl (fun ls hl => ?_)
      unfold fX11_errand_b115 at h
      exact tX11_errand_b115 C0 hr96 _ _ _ _ _ _ h hH (lv_sub hl [2, 3, 4, 5, 6, 7, 1, 0] rfl)
set_option maxRecDepth 100000 in
set_option maxHeartbeats 4000000 in
theorem tX11_errand_b88 {p : Program} {l : Launch} {e : Env} {s : State} {m : MethodId} {args : Array Value} {below : List Frame} {meth : Method} {c : Code} {A : Nat → Prop} {dC : Nat → ClassId} {dI : Nat → Nat → Nat} {cI : ClassId} {q q_refused q_tongue q_said q_fresh q_kept q_isKept q_text q_talk : Nat} {m_thrown : Int32} {m_size : Int32} {m_at : Int32} {m_start : Int32} {m_token : Int32} {m_value : Int64} {m_faultAt : Int32} {m_allowed : Int32} {m_firstPair : Int32} {m_secondPair : Int32} {m_above : Int64} {m_below : Int64} {m_refused : Nat → Int32} {m_tongue : Nat → Int32} {m_said : Nat → Int32} {x1 : Int32} {x2 : Int32} (C0 : gm_C p s m args meth c (dC, dI) [(cI, .int)] A gm_T RX11 cX11_errand 8 (some .int) wsX11_errand) {N : Nat} {out : Int32 × Int32 × (Nat → Int32) × (Nat → Int32)}    {H : Heap} {locs : List Loc} {ls : Array Slot} (h : fX11_errand_b88 N  m_thrown m_refused m_tongue m_said x1 x2 = some out) (hH : gm_H (dC, dI) A s (wX11_errand cI q q_refused q_tongue q_said q_fresh q_kept q_isKept q_text q_talk m_thrown m_size m_at m_start m_token m_value m_faultAt m_allowed m_firstPair m_secondPair m_above m_below m_refused m_tongue m_said) H locs) (hl : lv_has ls 8 [(0, .ref q), (1, .int x1), (2, .int x2)]) : W p l e rX11_errand s m args below meth c H locs 0 0 (MQ below (gm_Q (dC, dI) [(cI, .int)] A (some (.int out.1)) (wX11_errand cI q q_refused q_tongue q_said q_fresh q_kept q_isKept q_text q_talk out.2.1 m_size m_at m_start m_token m_value m_faultAt m_allowed m_firstPair m_secondPair m_above m_below out.2.2.1 m_tongue out.2.2.2)) args s 0 0 A) (F0 m 88 ls []) := by
  obtain ⟨hx, hb, hml, hr, hown, hts, hA, hK, hX, hlocks⟩ := id C0
  unfold fX11_errand_b88 at h
  refine lv_iconst (v := (-1)) hx hb dX11_errand_88 (by decide) ?_
  refine lv_istore_n (lv' := [(3, .int (-1)), (0, .ref q), (1, .int x1), (2, .int x2)]) hx hb dX11_errand_89 rfl hl (by decide) rfl (fun ls hl => ?_)
  refine lv_iconst (v := (-1)) hx hb dX11_errand_90 (by decide) ?_
  refine lv_istore (lv' := [(4, .int (-1)), (3, .int (-1)), (0, .ref q), (1, .int x1), (2, .int x2)]) hx hb dX11_errand_91 hl (by decide) rfl (fun ls hl => ?_)
  refine lv_iconst (v := 0) hx hb dX11_errand_93 (by decide) ?_
  refine lv_istore (lv' := [(5, .int 0), (4, .int (-1)), (3, .int (-1)), (0, .ref q), (1, .int x1), (2, .int x2)]) hx hb dX11_errand_94 hl (by decide) rfl (fun ls hl => ?_)
  unfold fX11_errand_b96 at h
  exact tX11_errand_b96 C0  _ _ _ _ _ _ _ h hH (lv_sub hl [3, 4, 5, 2, 1, 0] rfl)
set_option maxRecDepth 100000 in
set_option maxHeartbeats 4000000 in
theorem tX11_errand_b82 {p : Program} {l : Launch} {e : Env} {s : State} {m : MethodId} {args : Array Value} {below : List Frame} {meth : Method} {c : Code} {A : Nat → Prop} {dC : Nat → ClassId} {dI : Nat → Nat → Nat} {cI : ClassId} {q q_refused q_tongue q_said q_fresh q_kept q_isKept q_text q_talk : Nat} {m_thrown : Int32} {m_size : Int32} {m_at : Int32} {m_start : Int32} {m_token : Int32} {m_value : Int64} {m_faultAt : Int32} {m_allowed : Int32} {m_firstPair : Int32} {m_secondPair : Int32} {m_above : Int64} {m_below : Int64} {m_refused : Nat → Int32} {m_tongue : Nat → Int32} {m_said : Nat → Int32} {x1 : Int32} {x2 : Int32} {x3 : Int32} (C0 : gm_C p s m args meth c (dC, dI) [(cI, .int)] A gm_T RX11 cX11_errand 8 (some .int) wsX11_errand) {N : Nat} {out : Int32 × Int32 × (Nat → Int32) × (Nat → Int32)} {r29 : (Nat → Int32) → Int32 → Option (Int32 × Int32 × (Nat → Int32) × (Nat → Int32))} (hr29 : ∀ (m_said : Nat → Int32) (x3 : Int32) (H : Heap) (locs : List Loc) (ls : Array Slot), r29 m_said x3 = some out → gm_H (dC, dI) A s (wX11_errand cI q q_refused q_tongue q_said q_fresh q_kept q_isKept q_text q_talk m_thrown m_size m_at m_start m_token m_value m_faultAt m_allowed m_firstPair m_secondPair m_above m_below m_refused m_tongue m_said) H locs → lv_has ls 8 [(0, .ref q), (1, .int x1), (2, .int x2), (3, .int x3)] → W p l e rX11_errand s m args below meth c H locs 0 0 (MQ below (gm_Q (dC, dI) [(cI, .int)] A (some (.int out.1)) (wX11_errand cI q q_refused q_tongue q_said q_fresh q_kept q_isKept q_text q_talk out.2.1 m_size m_at m_start m_token m_value m_faultAt m_allowed m_firstPair m_secondPair m_above m_below out.2.2.1 m_tongue out.2.2.2)) args s 0 0 A) (F0 m 29 ls []))   {H : Heap} {locs : List Loc} {ls : Array Slot} (h : fX11_errand_b82 N r29 m_thrown m_refused m_tongue m_said x1 x2 x3 = some out) (hH : gm_H (dC, dI) A s (wX11_errand cI q q_refused q_tongue q_said q_fresh q_kept q_isKept q_text q_talk m_thrown m_size m_at m_start m_token m_value m_faultAt m_allowed m_firstPair m_secondPair m_above m_below m_refused m_tongue m_said) H locs) (hl : lv_has ls 8 [(0, .ref q), (1, .int x1), (2, .int x2), (3, .int x3)]) : W p l e rX11_errand s m args below meth c H locs 0 0 (MQ below (gm_Q (dC, dI) [(cI, .int)] A (some (.int out.1)) (wX11_errand cI q q_refused q_tongue q_said q_fresh q_kept q_isKept q_text q_talk out.2.1 m_size m_at m_start m_token m_value m_faultAt m_allowed m_firstPair m_secondPair m_above m_below out.2.2.1 m_tongue out.2.2.2)) args s 0 0 A) (F0 m 82 ls []) := by
  obtain ⟨hx, hb, hml, hr, hown, hts, hA, hK, hX, hlocks⟩ := id C0
  unfold fX11_errand_b82 at h
  refine lv_iinc (v := (x3 + 1)) (lv' := [(3, .int (x3 + 1)), (0, .ref q), (1, .int x1), (2, .int x2)]) hx hb dX11_errand_82 hl (k := 3) rfl rfl (by decide) rfl (fun ls hl => ?_)
  refine lv_goto (tgt := 29) hx hb dX11_errand_85 (by decide) ?_
  exact hr29 _ _ _ _ _ h hH (lv_sub hl [1, 2, 3, 0] rfl)
set_option maxRecDepth 100000 in
set_option maxHeartbeats 4000000 in
theorem tX11_errand_b49 {p : Program} {l : Launch} {e : Env} {s : State} {m : MethodId} {args : Array Value} {below : List Frame} {meth : Method} {c : Code} {A : Nat → Prop} {dC : Nat → ClassId} {dI : Nat → Nat → Nat} {cI : ClassId} {q q_refused q_tongue q_said q_fresh q_kept q_isKept q_text q_talk : Nat} {m_thrown : Int32} {m_size : Int32} {m_at : Int32} {m_start : Int32} {m_token : Int32} {m_value : Int64} {m_faultAt : Int32} {m_allowed : Int32} {m_firstPair : Int32} {m_secondPair : Int32} {m_above : Int64} {m_below : Int64} {m_refused : Nat → Int32} {m_tongue : Nat → Int32} {x1 : Int32} {x2 : Int32} {x3 : Int32} (C0 : gm_C p s m args meth c (dC, dI) [(cI, .int)] A gm_T RX11 cX11_errand 8 (some .int) wsX11_errand) {N : Nat} {out : Int32 × Int32 × (Nat → Int32) × (Nat → Int32)} {r29 : (Nat → Int32) → Int32 → Option (Int32 × Int32 × (Nat → Int32) × (Nat → Int32))} (hr29 : ∀ (m_said : Nat → Int32) (x3 : Int32) (H : Heap) (locs : List Loc) (ls : Array Slot), r29 m_said x3 = some out → gm_H (dC, dI) A s (wX11_errand cI q q_refused q_tongue q_said q_fresh q_kept q_isKept q_text q_talk m_thrown m_size m_at m_start m_token m_value m_faultAt m_allowed m_firstPair m_secondPair m_above m_below m_refused m_tongue m_said) H locs → lv_has ls 8 [(0, .ref q), (1, .int x1), (2, .int x2), (3, .int x3)] → W p l e rX11_errand s m args below meth c H locs 0 0 (MQ below (gm_Q (dC, dI) [(cI, .int)] A (some (.int out.1)) (wX11_errand cI q q_refused q_tongue q_said q_fresh q_kept q_isKept q_text q_talk out.2.1 m_size m_at m_start m_token m_value m_faultAt m_allowed m_firstPair m_secondPair m_above m_below out.2.2.1 m_tongue out.2.2.2)) args s 0 0 A) (F0 m 29 ls []))  : ∀ (n : Nat), ∀ (m_said : Nat → Int32) (x4 : Int32) (H : Heap) (locs : List Loc) (ls : Array Slot), (gm_fix (fX11_errand_b49_body N r29 m_thrown m_refused m_tongue x1 x2 x3) (fun _ _ => none) n) m_said x4 = some out → gm_H (dC, dI) A s (wX11_errand cI q q_refused q_tongue q_said q_fresh q_kept q_isKept q_text q_talk m_thrown m_size m_at m_start m_token m_value m_faultAt m_allowed m_firstPair m_secondPair m_above m_below m_refused m_tongue m_said) H locs → lv_has ls 8 [(0, .ref q), (1, .int x1), (2, .int x2), (3, .int x3), (4, .int x4)] → W p l e rX11_errand s m args below meth c H locs 0 0 (MQ below (gm_Q (dC, dI) [(cI, .int)] A (some (.int out.1)) (wX11_errand cI q q_refused q_tongue q_said q_fresh q_kept q_isKept q_text q_talk out.2.1 m_size m_at m_start m_token m_value m_faultAt m_allowed m_firstPair m_secondPair m_above m_below out.2.2.1 m_tongue out.2.2.2)) args s 0 0 A) (F0 m 49 ls []) := by
  obtain ⟨hx, hb, hml, hr, hown, hts, hA, hK, hX, hlocks⟩ := id C0
  intro n
  induction n with
  | zero =>
    intro m_said x4 H locs ls h hH hl
    cases h
  | succ n hr49 =>
    intro m_said x4 H locs ls h hH hl
    rw [gm_fix_s] at h
    unfold fX11_errand_b49_body at h
    refine lv_iload hx hb dX11_errand_49 (lv_at hl 4 rfl) ?_
    refine lv_aload_n hx hb dX11_errand_51 rfl (lv_at hl 0 rfl) ?_
    refine gm_get (ci := 11) C0 hH inX11_errand_X11 0 2 2 rfl rfl (by decide) rfl rfl dX11_errand_52 ?_
    refine lv_iconst (v := 1) hx hb dX11_errand_55 (by decide) ?_
    obtain ⟨hi24, h⟩ := gm_chk_e h
    refine gm_iald C0 hH hi24 2 0 rfl rfl dX11_errand_56 ?_
    refine lv_icmp_ge (tgt := 82) hx hb dX11_errand_57 (by decide) (fun hc25 => ?_) (fun hc25 => ?_)
    · replace h := gm_pos hc25 h
      exact tX11_errand_b82 C0 hr29 h hH (lv_sub hl [0, 1, 2, 3] rfl)
    · replace h := gm_neg hc25 h
      refine lv_aload_n hx hb dX11_errand_60 rfl (lv_at hl 0 rfl) ?_
      refine gm_get (ci := 11) C0 hH inX11_errand_X11 0 13 3 rfl rfl (by decide) rfl rfl dX11_errand_61 ?_
      refine lv_iload_n hx hb dX11_errand_64 rfl (lv_at hl 3 rfl) ?_
      refine lv_dup2_11 hx hb dX11_errand_65 rfl rfl ?_
      obtain ⟨hi26, h⟩ := gm_chk_e h
      refine gm_iald C0 hH hi26 3 0 rfl rfl dX11_errand_66 ?_
      refine lv_aload_n hx hb dX11_errand_67 rfl (lv_at hl 0 rfl) ?_
      refine lv_iload hx hb dX11_errand_68 (lv_at hl 4 rfl) ?_
      refine lv_iload_n hx hb dX11_errand_70 rfl (lv_at hl 3 rfl) ?_
      obtain ⟨o27, ho27, h⟩ := gm_bind_e h
      refine gm_callV (As := [.int x4, .int x3]) (rest := [.int (m_said (Int32.toNatClampNeg x3)), .int x3, .ref q_said]) (n := 2) (ci := 11) (q0 := 0) C0 hH (mX11_canSay l dC dI cI q q_tongue q_refused q_fresh q_kept q_isKept q_text q_said q_talk m_thrown m_size m_at m_start m_token m_value m_faultAt m_allowed m_firstPair m_secondPair m_above m_below m_tongue x4 x3   ho27) gX11_errand_X11_canSay rfl (by decide +kernel) ⟨rfl, rfl, Nat.le_of_ble_eq_true rfl, Nat.le_of_ble_eq_true rfl⟩ gm_T_ok (fun _ => trivial) [0, 2] rfl rfl rfl [0] rfl rfl rfl rfl hl.1 rfl (Nat.le_of_ble_eq_true rfl) dX11_errand_71 ⟨Nat.zero_le _, Nat.zero_le _⟩ (fun H locs hH => ?_)
      have hH : gm_H (dC, dI) A s (wX11_errand cI q q_refused q_tongue q_said q_fresh q_kept q_isKept q_text q_talk m_thrown m_size m_at m_start m_token m_value m_faultAt m_allowed m_firstPair m_secondPair m_above m_below m_refused m_tongue m_said) H locs := hH
      refine lv_ior hx hb dX11_errand_74 ?_
      obtain ⟨hi28, h⟩ := gm_chk_e h
      refine gm_iast C0 hH hi28 3 0 rfl rfl dX11_errand_75 (fun H locs hH => ?_)
      have hH : gm_H (dC, dI) A s (wX11_errand cI q q_refused q_tongue q_said q_fresh q_kept q_isKept q_text q_talk m_thrown m_size m_at m_start m_token m_value m_faultAt m_allowed m_firstPair m_secondPair m_above m_below m_refused m_tongue (upd m_said (Int32.toNatClampNeg x3) (((m_said (Int32.toNatClampNeg x3)) ||| o27)))) H locs := hH
      refine lv_iinc (v := (x4 + 1)) (lv' := [(4, .int (x4 + 1)), (0, .ref q), (1, .int x1), (2, .int x2), (3, .int x3)]) hx hb dX11_errand_76 hl (k := 4) rfl rfl (by decide) rfl (fun ls hl => ?_)
      refine lv_goto (tgt := 49) hx hb dX11_errand_79 (by decide) ?_
      exact hr49 _ _ _ _ _ h hH (lv_sub hl [1, 2, 3, 4, 0] rfl)
set_option maxRecDepth 100000 in
set_option maxHeartbeats 4000000 in
theorem tX11_errand_b29 {p : Program} {l : Launch} {e : Env} {s : State} {m : MethodId} {args : Array Value} {below : List Frame} {meth : Method} {c : Code} {A : Nat → Prop} {dC : Nat → ClassId} {dI : Nat → Nat → Nat} {cI : ClassId} {q q_refused q_tongue q_said q_fresh q_kept q_isKept q_text q_talk : Nat} {m_thrown : Int32} {m_size : Int32} {m_at : Int32} {m_start : Int32} {m_token : Int32} {m_value : Int64} {m_faultAt : Int32} {m_allowed : Int32} {m_firstPair : Int32} {m_secondPair : Int32} {m_above : Int64} {m_below : Int64} {m_refused : Nat → Int32} {m_tongue : Nat → Int32} {x1 : Int32} {x2 : Int32} (C0 : gm_C p s m args meth c (dC, dI) [(cI, .int)] A gm_T RX11 cX11_errand 8 (some .int) wsX11_errand) {N : Nat} {out : Int32 × Int32 × (Nat → Int32) × (Nat → Int32)}   : ∀ (n : Nat), ∀ (m_said : Nat → Int32) (x3 : Int32) (H : Heap) (locs : List Loc) (ls : Array Slot), (gm_fix (fX11_errand_b29_body N  m_thrown m_refused m_tongue x1 x2) (fun _ _ => none) n) m_said x3 = some out → gm_H (dC, dI) A s (wX11_errand cI q q_refused q_tongue q_said q_fresh q_kept q_isKept q_text q_talk m_thrown m_size m_at m_start m_token m_value m_faultAt m_allowed m_firstPair m_secondPair m_above m_below m_refused m_tongue m_said) H locs → lv_has ls 8 [(0, .ref q), (1, .int x1), (2, .int x2), (3, .int x3)] → W p l e rX11_errand s m args below meth c H locs 0 0 (MQ below (gm_Q (dC, dI) [(cI, .int)] A (some (.int out.1)) (wX11_errand cI q q_refused q_tongue q_said q_fresh q_kept q_isKept q_text q_talk out.2.1 m_size m_at m_start m_token m_value m_faultAt m_allowed m_firstPair m_secondPair m_above m_below out.2.2.1 m_tongue out.2.2.2)) args s 0 0 A) (F0 m 29 ls []) := by
  obtain ⟨hx, hb, hml, hr, hown, hts, hA, hK, hX, hlocks⟩ := id C0
  intro n
  induction n with
  | zero =>
    intro m_said x3 H locs ls h hH hl
    cases h
  | succ n hr29 =>
    intro m_said x3 H locs ls h hH hl
    rw [gm_fix_s] at h
    unfold fX11_errand_b29_body at h
    refine lv_iload_n hx hb dX11_errand_29 rfl (lv_at hl 3 rfl) ?_
    refine lv_aload_n hx hb dX11_errand_30 rfl (lv_at hl 0 rfl) ?_
    refine gm_get (ci := 11) C0 hH inX11_errand_X11 0 2 2 rfl rfl (by decide) rfl rfl dX11_errand_31 ?_
    refine lv_iconst (v := 0) hx hb dX11_errand_34 (by decide) ?_
    obtain ⟨hi6, h⟩ := gm_chk_e h
    refine gm_iald C0 hH hi6 2 0 rfl rfl dX11_errand_35 ?_
    refine lv_icmp_ge (tgt := 88) hx hb dX11_errand_36 (by decide) (fun hc7 => ?_) (fun hc7 => ?_)
    · replace h := gm_pos hc7 h
      exact tX11_errand_b88 C0  h hH (lv_sub hl [0, 1, 2] rfl)
    · replace h := gm_neg hc7 h
      refine lv_aload_n hx hb dX11_errand_39 rfl (lv_at hl 0 rfl) ?_
      refine gm_get (ci := 11) C0 hH inX11_errand_X11 0 13 3 rfl rfl (by decide) rfl rfl dX11_errand_40 ?_
      refine lv_iload_n hx hb dX11_errand_43 rfl (lv_at hl 3 rfl) ?_
      refine lv_iconst (v := 0) hx hb dX11_errand_44 (by decide) ?_
      obtain ⟨hi23, h⟩ := gm_chk_e h
      refine gm_iast C0 hH hi23 3 0 rfl rfl dX11_errand_45 (fun H locs hH => ?_)
      have hH : gm_H (dC, dI) A s (wX11_errand cI q q_refused q_tongue q_said q_fresh q_kept q_isKept q_text q_talk m_thrown m_size m_at m_start m_token m_value m_faultAt m_allowed m_firstPair m_secondPair m_above m_below m_refused m_tongue (upd m_said (Int32.toNatClampNeg x3) 0)) H locs := hH
      refine lv_iconst (v := 0) hx hb dX11_errand_46 (by decide) ?_
      refine lv_istore (lv' := [(4, .int 0), (0, .ref q), (1, .int x1), (2, .int x2), (3, .int x3)]) hx hb dX11_errand_47 hl (by decide) rfl (fun ls hl => ?_)
      unfold fX11_errand_b49 at h
      exact tX11_errand_b49 C0 hr29 _ _ _ _ _ _ h hH (lv_sub hl [1, 2, 3, 4, 0] rfl)
set_option maxRecDepth 100000 in
set_option maxHeartbeats 4000000 in
theorem mX11_errand (l : Launch) (dC : Nat → ClassId) (dI : Nat → Nat → Nat) (cI : ClassId) (q q_refused q_tongue q_said q_fresh q_kept q_isKept q_text q_talk : Nat) (m_thrown : Int32) (m_size : Int32) (m_at : Int32) (m_start : Int32) (m_token : Int32) (m_value : Int64) (m_faultAt : Int32) (m_allowed : Int32) (m_firstPair : Int32) (m_secondPair : Int32) (m_above : Int64) (m_below : Int64) (m_refused : Nat → Int32) (m_tongue : Nat → Int32) (m_said : Nat → Int32) (x1 : Int32) (x2 : Int32)  {N : Nat} {out : Int32 × Int32 × (Nat → Int32) × (Nat → Int32)} (h : fX11_errand N m_thrown m_refused m_tongue m_said x1 x2 = some out) : gm_Met l yX11_errand wsX11_errand rX11_errand (dC, dI) [(cI, .int)] gm_T [.ref q, .int x1, .int x2] (wX11_errand cI q q_refused q_tongue q_said q_fresh q_kept q_isKept q_text q_talk m_thrown m_size m_at m_start m_token m_value m_faultAt m_allowed m_firstPair m_secondPair m_above m_below m_refused m_tongue m_said) (some (.int out.1)) (wX11_errand cI q q_refused q_tongue q_said q_fresh q_kept q_isKept q_text q_talk out.2.1 m_size m_at m_start m_token m_value m_faultAt m_allowed m_firstPair m_secondPair m_above m_below out.2.2.1 m_tongue out.2.2.2) := by
  refine gm_ofW (cc := cX11_errand) (maxL := 8) (ret := (some .int)) (by decide +kernel) rfl (Nat.le_of_ble_eq_true rfl) ?_
  intro p e s m below meth c A C0 hH ls hl
  generalize ([.ref q, .int x1, .int x2] : List Value).toArray = args at C0 ⊢
  have hl : lv_has ls 8 [(0, .ref q), (1, .int x1), (2, .int x2)] := hl
  generalize s.heap = H at hH ⊢
  generalize ([] : List Loc) = locs at hH ⊢
  obtain ⟨hx, hb, hml, hr, hown, hts, hA, hK, hX, hlocks⟩ := id C0
  unfold fX11_errand at h
  refine lv_aload_n hx hb dX11_errand_0 rfl (lv_at hl 0 rfl) ?_
  refine lv_iconst (v := 0) hx hb dX11_errand_1 (by decide) ?_
  refine gm_putf (ci := 11) C0 hH inX11_errand_X11 tyX11_ok nmX11 0 0 1 rfl rfl (by decide) rfl rfl rfl rfl rfl (Nat.le_of_ble_eq_true rfl) dX11_errand_2 (fun H locs hH => ?_)
  have hH : gm_H (dC, dI) A s (wX11_errand cI q q_refused q_tongue q_said q_fresh q_kept q_isKept q_text q_talk 0 m_size m_at m_start m_token m_value m_faultAt m_allowed m_firstPair m_secondPair m_above m_below m_refused m_tongue m_said) H locs := hH
  refine lv_iload_n hx hb dX11_errand_5 rfl (lv_at hl 1 rfl) ?_
  obtain ⟨o1, ho1, h⟩ := gm_bind_e h
  refine gm_callS (As := [.int x1]) (rest := []) (n := 1) C0 hH (mX11_areMeanings l dC dI    x1   ho1) gX11_errand_X11_areMeanings rfl (by decide +kernel) ⟨rfl, rfl, Nat.le_of_ble_eq_true rfl, Nat.le_of_ble_eq_true rfl⟩ gm_T_ok (fun _ => trivial) [] rfl rfl rfl [] rfl rfl hl.1 rfl (Nat.le_of_ble_eq_true rfl) dX11_errand_6 ⟨Nat.zero_le _, Nat.zero_le _⟩ (fun H locs hH => ?_)
  have hH : gm_H (dC, dI) A s (wX11_errand cI q q_refused q_tongue q_said q_fresh q_kept q_isKept q_text q_talk 0 m_size m_at m_start m_token m_value m_faultAt m_allowed m_firstPair m_secondPair m_above m_below m_refused m_tongue m_said) H locs := hH
  refine lv_if_eq (tgt := 22) hx hb dX11_errand_9 (by decide) (fun hc2 => ?_) (fun hc2 => ?_)
  · replace h := gm_pos hc2 h
    exact tX11_errand_b22 C0  h hH (lv_sub hl [0] rfl)
  · replace h := gm_neg hc2 h
    refine lv_iload_n hx hb dX11_errand_12 rfl (lv_at hl 2 rfl) ?_
    refine lv_i2l hx hb dX11_errand_13 rfl ?_
    refine lv_lconst (v := 0) hx hb dX11_errand_14 (by decide) ?_
    refine lv_lconst (v := 1) hx hb dX11_errand_15 (by decide) ?_
    obtain ⟨o4, ho4, h⟩ := gm_bind_e h
    refine gm_callS (As := [.long (Int32.toInt64 x2), .long 0, .long 1]) (rest := []) (n := 3) C0 hH (mX11_in l dC dI    ((Int32.toInt64 x2)) 0 1   ho4) gX11_errand_X11_in rfl (by decide +kernel) ⟨rfl, rfl, Nat.le_of_ble_eq_true rfl, Nat.le_of_ble_eq_true rfl⟩ gm_T_ok (fun _ => trivial) [] rfl rfl rfl [] rfl rfl hl.1 rfl (Nat.le_of_ble_eq_true rfl) dX11_errand_16 ⟨Nat.zero_le _, Nat.zero_le _⟩ (fun H locs hH => ?_)
    have hH : gm_H (dC, dI) A s (wX11_errand cI q q_refused q_tongue q_said q_fresh q_kept q_isKept q_text q_talk 0 m_size m_at m_start m_token m_value m_faultAt m_allowed m_firstPair m_secondPair m_above m_below m_refused m_tongue m_said) H locs := hH
    refine lv_if_ne (tgt := 27) hx hb dX11_errand_19 (by decide) (fun hc5 => ?_) (fun hc5 => ?_)
    · replace h := gm_neg hc5 h
      refine lv_iconst (v := 0) hx hb dX11_errand_27 (by decide) ?_
      refine lv_istore_n (lv' := [(3, .int 0), (0, .ref q), (1, .int x1), (2, .int x2)]) hx hb dX11_errand_28 rfl hl (by decide) rfl (fun ls hl => ?_)
      unfold fX11_errand_b29 at h
      exact tX11_errand_b29 C0  _ _ _ _ _ _ h hH (lv_sub hl [1, 2, 3, 0] rfl)
    · replace h := gm_pos hc5 h
      exact tX11_errand_b22 C0  h hH (lv_sub hl [0] rfl)
