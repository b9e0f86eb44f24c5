/-! X11_layAllow -/
abbrev wX11_layAllow (cI : ClassId) (q q_tongue q_refused q_fresh q_kept q_isKept q_text q_said q_talk : Nat) (m_thrown : Int32) (m_size : Int32) (m_at : Int32) (m_start : Int32) (m_token : Int32) (m_value : Int64) (m_faultAt : Int32) (m_allowed : Int32) (m_firstPair : Int32) (m_secondPair : Int32) (m_above : Int64) (m_below : Int64) (m_tongue : Nat → Int32) : va_W := [(q, .inr (11, [.int m_thrown, .ref q_refused, .ref q_tongue, .ref q_fresh, .ref q_kept, .ref q_isKept, .ref q_text, .int m_size, .int m_at, .int m_start, .int m_token, .long m_value, .int m_faultAt, .ref q_said, .ref q_talk, .int m_allowed, .int m_firstPair, .int m_secondPair, .long m_above, .long m_below])), (q_tongue, .inl (cI, 73, .inl m_tongue))]
abbrev rX11_layAllow : Room := { frames := 9, cells := 0, slots := 0, locals := 206 }
def fX11_layAllow_b154 (N : Nat) (r20 : Int32 → Int32 → Int32 → (Nat → Int32) → Int32 → Option (Int32 × Int32 × Int32 × (Nat → Int32))) (m_allowed : Int32) (m_firstPair : Int32) (m_secondPair : Int32) (m_tongue : Nat → Int32) (x1 : Int32) (x2 : Int32) (x3 : Int32) : Option (Int32 × Int32 × Int32 × (Nat → Int32)) := (r20 m_allowed m_firstPair m_secondPair m_tongue ((x3 + 1)))
def fX11_layAllow_b148 (N : Nat) (r20 : Int32 → Int32 → Int32 → (Nat → Int32) → Int32 → Option (Int32 × Int32 × Int32 × (Nat → Int32))) (r36 : Int32 → Int32 → Int32 → (Nat → Int32) → Int32 → Option (Int32 × Int32 × Int32 × (Nat → Int32))) (m_allowed : Int32) (m_firstPair : Int32) (m_secondPair : Int32) (m_tongue : Nat → Int32) (x1 : Int32) (x2 : Int32) (x3 : Int32) (x4 : Int32) : Option (Int32 × Int32 × Int32 × (Nat → Int32)) := (r36 m_allowed m_firstPair m_secondPair m_tongue ((x4 + 1)))
def fX11_layAllow_b142 (N : Nat) (r20 : Int32 → Int32 → Int32 → (Nat → Int32) → Int32 → Option (Int32 × Int32 × Int32 × (Nat → Int32))) (r36 : Int32 → Int32 → Int32 → (Nat → Int32) → Int32 → Option (Int32 × Int32 × Int32 × (Nat → Int32))) (r67 : Int32 → Int32 → Int32 → (Nat → Int32) → Int32 → Option (Int32 × Int32 × Int32 × (Nat → Int32))) (m_allowed : Int32) (m_firstPair : Int32) (m_secondPair : Int32) (m_tongue : Nat → Int32) (x1 : Int32) (x2 : Int32) (x3 : Int32) (x4 : Int32) (x5 : Int32) : Option (Int32 × Int32 × Int32 × (Nat → Int32)) := (r67 m_allowed m_firstPair m_secondPair m_tongue ((x5 + 1)))
def fX11_layAllow_b83 (N : Nat) (r20 : Int32 → Int32 → Int32 → (Nat → Int32) → Int32 → Option (Int32 × Int32 × Int32 × (Nat → Int32))) (r36 : Int32 → Int32 → Int32 → (Nat → Int32) → Int32 → Option (Int32 × Int32 × Int32 × (Nat → Int32))) (r67 : Int32 → Int32 → Int32 → (Nat → Int32) → Int32 → Option (Int32 × Int32 × Int32 × (Nat → Int32))) (m_allowed : Int32) (m_firstPair : Int32) (m_secondPair : Int32) (m_tongue : Nat → Int32) (x1 : Int32) (x2 : Int32) (x3 : Int32) (x4 : Int32) (x5 : Int32) (k0 : Int32) (k1 : Int32) : Option (Int32 × Int32 × Int32 × (Nat → Int32)) := (if k1 ≤ k0 then (fX11_layAllow_b148 N r20 r36 m_allowed m_firstPair m_secondPair m_tongue x1 x2 x3 x4) else (if m_allowed = (-1) then gm_bind (fX11_isFree N m_tongue x4) (fun o11 => (if o11 = 0 then (fX11_layAllow_b142 N r20 r36 r67 m_allowed m_firstPair m_secondPair m_tongue x1 x2 x3 x4 x5) else gm_bind (fX11_isFree N m_tongue x5) (fun o13 => (if o13 = 0 then (fX11_layAllow_b142 N r20 r36 r67 m_allowed m_firstPair m_secondPair m_tongue x1 x2 x3 x4 x5) else gm_bind (fX11_canSayWith N m_tongue x1 x2 x4 x5) (fun o15 => (if o15.1 = 0 then (fX11_layAllow_b142 N r20 r36 r67 m_allowed m_firstPair m_secondPair o15.2 x1 x2 x3 x4 x5) else (fX11_layAllow_b142 N r20 r36 r67 x3 x4 x5 o15.2 x1 x2 x3 x4 x5))))))) else (fX11_layAllow_b148 N r20 r36 m_allowed m_firstPair m_secondPair m_tongue x1 x2 x3 x4)))
def fX11_layAllow_b67_body (N : Nat) (r20 : Int32 → Int32 → Int32 → (Nat → Int32) → Int32 → Option (Int32 × Int32 × Int32 × (Nat → Int32))) (r36 : Int32 → Int32 → Int32 → (Nat → Int32) → Int32 → Option (Int32 × Int32 × Int32 × (Nat → Int32))) (x1 : Int32) (x2 : Int32) (x3 : Int32) (x4 : Int32) (r67 : Int32 → Int32 → Int32 → (Nat → Int32) → Int32 → Option (Int32 × Int32 × Int32 × (Nat → Int32))) (m_allowed : Int32) (m_firstPair : Int32) (m_secondPair : Int32) (m_tongue : Nat → Int32) (x5 : Int32) : Option (Int32 × Int32 × Int32 × (Nat → Int32)) := (if x3 = 1 then (fX11_layAllow_b83 N r20 r36 r67 m_allowed m_firstPair m_secondPair m_tongue x1 x2 x3 x4 x5 x5 ((x4 + 1))) else (fX11_layAllow_b83 N r20 r36 r67 m_allowed m_firstPair m_secondPair m_tongue x1 x2 x3 x4 x5 x5 68))
def fX11_layAllow_b67 (N : Nat) (r20 : Int32 → Int32 → Int32 → (Nat → Int32) → Int32 → Option (Int32 × Int32 × Int32 × (Nat → Int32))) (r36 : Int32 → Int32 → Int32 → (Nat → Int32) → Int32 → Option (Int32 × Int32 × Int32 × (Nat → Int32))) (x1 : Int32) (x2 : Int32) (x3 : Int32) (x4 : Int32) (m_allowed : Int32) (m_firstPair : Int32) (m_secondPair : Int32) (m_tongue : Nat → Int32) (x5 : Int32) : Option (Int32 × Int32 × Int32 × (Nat → Int32)) := gm_fix (fX11_layAllow_b67_body N r20 r36 x1 x2 x3 x4) (fun _ _ _ _ _ => none) N m_allowed m_firstPair m_secondPair m_tongue x5
def fX11_layAllow_b65 (N : Nat) (r20 : Int32 → Int32 → Int32 → (Nat → Int32) → Int32 → Option (Int32 × Int32 × Int32 × (Nat → Int32))) (r36 : Int32 → Int32 → Int32 → (Nat → Int32) → Int32 → Option (Int32 × Int32 × Int32 × (Nat → Int32))) (m_allowed : Int32) (m_firstPair : Int32) (m_secondPair : Int32) (m_tongue : Nat → Int32) (x1 : Int32) (x2 : Int32) (x3 : Int32) (x4 : Int32) (k0 : Int32) : Option (Int32 × Int32 × Int32 × (Nat → Int32)) := (fX11_layAllow_b67 N r20 r36 x1 x2 x3 x4 m_allowed m_firstPair m_secondPair m_tongue k0)
def fX11_layAllow_b36_body (N : Nat) (r20 : Int32 → Int32 → Int32 → (Nat → Int32) → Int32 → Option (Int32 × Int32 × Int32 × (Nat → Int32))) (x1 : Int32) (x2 : Int32) (x3 : Int32) (r36 : Int32 → Int32 → Int32 → (Nat → Int32) → Int32 → Option (Int32 × Int32 × Int32 × (Nat → Int32))) (m_allowed : Int32) (m_firstPair : Int32) (m_secondPair : Int32) (m_tongue : Nat → Int32) (x4 : Int32) : Option (Int32 × Int32 × Int32 × (Nat → Int32)) := (if 68 ≤ x4 then (fX11_layAllow_b154 N r20 m_allowed m_firstPair m_secondPair m_tongue x1 x2 x3) else (if m_allowed = (-1) then (if x3 = 1 then (fX11_layAllow_b65 N r20 r36 m_allowed m_firstPair m_secondPair m_tongue x1 x2 x3 x4 x4) else (fX11_layAllow_b65 N r20 r36 m_allowed m_firstPair m_secondPair m_tongue x1 x2 x3 x4 ((x4 + 1)))) else (fX11_layAllow_b154 N r20 m_allowed m_firstPair m_secondPair m_tongue x1 x2 x3)))
def fX11_layAllow_b36 (N : Nat) (r20 : Int32 → Int32 → Int32 → (Nat → Int32) → Int32 → Option (Int32 × Int32 × Int32 × (Nat → Int32))) (x1 : Int32) (x2 : Int32) (x3 : Int32) (m_allowed : Int32) (m_firstPair : Int32) (m_secondPair : Int32) (m_tongue : Nat → Int32) (x4 : Int32) : Option (Int32 × Int32 × Int32 × (Nat → Int32)) := gm_fix (fX11_layAllow_b36_body N r20 x1 x2 x3) (fun _ _ _ _ _ => none) N m_allowed m_firstPair m_secondPair m_tongue x4
def fX11_layAllow_b20_body (N : Nat)  (x1 : Int32) (x2 : Int32) (r20 : Int32 → Int32 → Int32 → (Nat → Int32) → Int32 → Option (Int32 × Int32 × Int32 × (Nat → Int32))) (m_allowed : Int32) (m_firstPair : Int32) (m_secondPair : Int32) (m_tongue : Nat → Int32) (x3 : Int32) : Option (Int32 × Int32 × Int32 × (Nat → Int32)) := (if 3 ≤ x3 then some (m_allowed, m_firstPair, m_secondPair, m_tongue) else (if m_allowed = (-1) then (fX11_layAllow_b36 N r20 x1 x2 x3 m_allowed m_firstPair m_secondPair m_tongue 0) else some (m_allowed, m_firstPair, m_secondPair, m_tongue)))
def fX11_layAllow_b20 (N : Nat)  (x1 : Int32) (x2 : Int32) (m_allowed : Int32) (m_firstPair : Int32) (m_secondPair : Int32) (m_tongue : Nat → Int32) (x3 : Int32) : Option (Int32 × Int32 × Int32 × (Nat → Int32)) := gm_fix (fX11_layAllow_b20_body N  x1 x2) (fun _ _ _ _ _ => none) N m_allowed m_firstPair m_secondPair m_tongue x3
def fX11_layAllow_b15 (N : Nat)  (m_allowed : Int32) (m_firstPair : Int32) (m_secondPair : Int32) (m_tongue : Nat → Int32) (x1 : Int32) (x2 : Int32) (k1 : Int32) : Option (Int32 × Int32 × Int32 × (Nat → Int32)) := (fX11_layAllow_b20 N  x1 x2 k1 m_firstPair m_secondPair m_tongue 1)
def fX11_layAllow (N : Nat) (m_allowed : Int32) (m_firstPair : Int32) (m_secondPair : Int32) (m_tongue : Nat → Int32) (x1 : Int32) (x2 : Int32) : Option (Int32 × Int32 × Int32 × (Nat → Int32)) := gm_bind (fX11_canSayAll N m_tongue x1 x2) (fun o1 => (if o1 = 0 then (fX11_layAllow_b15 N  m_allowed m_firstPair m_secondPair m_tongue x1 x2 ((-1))) else (fX11_layAllow_b15 N  m_allowed m_firstPair m_secondPair m_tongue x1 x2 0)))
set_option maxRecDepth 20000 in
theorem inX11_layAllow_X11 : ∀ w ∈ u_ws RX11 TX11 20, w ∈ wsX11_layAllow := fun w h => by
  obtain ⟨k, hk, rfl⟩ := List.mem_map.mp h
  have hk2 := List.mem_range.mp hk
  exact List.mem_of_getElem? (i := 72 + k) (by rcases (show k = 0 ∨ k = 1 ∨ k = 2 ∨ k = 3 ∨ k = 4 ∨ k = 5 ∨ k = 6 ∨ k = 7 ∨ k = 8 ∨ k = 9 ∨ k = 10 ∨ k = 11 ∨ k = 12 ∨ k = 13 ∨ k = 14 ∨ k = 15 ∨ k = 16 ∨ k = 17 ∨ k = 18 ∨ k = 19 by omega) with rfl | rfl | rfl | rfl | rfl | rfl | rfl | rfl | rfl | rfl | rfl | rfl | rfl | rfl | rfl | rfl | rfl | rfl | rfl | rfl <;> rfl)
set_option maxRecDepth 100000 in
set_option maxHeartbeats 4000000 in
theorem tX11_layAllow_b154 {p : Program} {l : Launch} {e : Env} {s : State} {m : MethodId} {args : Array Value} {below : List Frame} {meth : Method} {c : Code} {A : Nat → Prop} {dC : Nat → ClassId} {dI : Nat → Nat → Nat} {cI : ClassId} {q q_tongue q_refused q_fresh q_kept q_isKept q_text q_said q_talk : Nat} {m_thrown : Int32} {m_size : Int32} {m_at : Int32} {m_start : Int32} {m_token : Int32} {m_value : Int64} {m_faultAt : Int32} {m_allowed : Int32} {m_firstPair : Int32} {m_secondPair : Int32} {m_above : Int64} {m_below : Int64} {m_tongue : Nat → Int32} {x1 : Int32} {x2 : Int32} {x3 : Int32} (C0 : gm_C p s m args meth c (dC, dI) [(cI, .int)] A gm_T RX11 cX11_layAllow 6 none wsX11_layAllow) {N : Nat} {out : Int32 × Int32 × Int32 × (Nat → Int32)} {r20 : Int32 → Int32 → Int32 → (Nat → Int32) → Int32 → Option (Int32 × Int32 × Int32 × (Nat → Int32))} (hr20 : ∀ (m_allowed : Int32) (m_firstPair : Int32) (m_secondPair : Int32) (m_tongue : Nat → Int32) (x3 : Int32) (H : Heap) (locs : List Loc) (ls : Array Slot), r20 m_allowed m_firstPair m_secondPair m_tongue x3 = some out → gm_H (dC, dI) A s (wX11_layAllow cI q q_tongue q_refused q_fresh q_kept q_isKept q_text q_said q_talk m_thrown m_size m_at m_start m_token m_value m_faultAt m_allowed m_firstPair m_secondPair m_above m_below m_tongue) H locs → lv_has ls 6 [(0, .ref q), (1, .int x1), (2, .int x2), (3, .int x3)] → W p l e rX11_layAllow s m args below meth c H locs 0 0 (MQ below (gm_Q (dC, dI) [(cI, .int)] A none (wX11_layAllow cI q q_tongue q_refused q_fresh q_kept q_isKept q_text q_said q_talk m_thrown m_size m_at m_start m_token m_value m_faultAt out.1 out.2.1 out.2.2.1 m_above m_below out.2.2.2)) args s 0 0 A) (F0 m 20 ls []))   {H : Heap} {locs : List Loc} {ls : Array Slot} (h : fX11_layAllow_b154 N r20 m_allowed m_firstPair m_secondPair m_tongue x1 x2 x3 = some out) (hH : gm_H (dC, dI) A s (wX11_layAllow cI q q_tongue q_refused q_fresh q_kept q_isKept q_text q_said q_talk m_thrown m_size m_at m_start m_token m_value m_faultAt m_allowed m_firstPair m_secondPair m_above m_below m_tongue) H locs) (hl : lv_has ls 6 [(0, .ref q), (1, .int x1), (2, .int x2), (3, .int x3)]) : W p l e rX11_layAllow s m args below meth c H locs 0 0 (MQ below (gm_Q (dC, dI) [(cI, .int)] A none (wX11_layAllow cI q q_tongue q_refused q_fresh q_kept q_isKept q_text q_said q_talk m_thrown m_size m_at m_start m_token m_value m_faultAt out.1 out.2.1 out.2.2.1 m_above m_below out.2.2.2)) args s 0 0 A) (F0 m 154 ls []) := by
  obtain ⟨hx, hb, hml, hr, hown, hts, hA, hK, hX, hlocks⟩ := id C0
  unfold fX11_layAllow_b154 at h
  refine lv_iinc (v := (x3 + 1)) (lv' := [(3, .int (x3 + 1)), (0, .ref q), (1, .int x1), (2, .int x2)]) hx hb dX11_layAllow_154 hl (k := 3) rfl rfl (by decide) rfl (fun ls hl => ?_)
  refine lv_goto (tgt := 20) hx hb dX11_layAllow_157 (by decide) ?_
  exact hr20 _ _ _ _ _ _ _ _ h hH (lv_sub hl [1, 2, 3, 0] rfl)
set_option maxRecDepth 100000 in
set_option maxHeartbeats 4000000 in
theorem tX11_layAllow_b148 {p : Program} {l : Launch} {e : Env} {s : State} {m : MethodId} {args : Array Value} {below : List Frame} {meth : Method} {c : Code} {A : Nat → Prop} {dC : Nat → ClassId} {dI : Nat → Nat → Nat} {cI : ClassId} {q q_tongue q_refused q_fresh q_kept q_isKept q_text q_said q_talk : Nat} {m_thrown : Int32} {m_size : Int32} {m_at : Int32} {m_start : Int32} {m_token : Int32} {m_value : Int64} {m_faultAt : Int32} {m_allowed : Int32} {m_firstPair : Int32} {m_secondPair : Int32} {m_above : Int64} {m_below : Int64} {m_tongue : Nat → Int32} {x1 : Int32} {x2 : Int32} {x3 : Int32} {x4 : Int32} (C0 : gm_C p s m args meth c (dC, dI) [(cI, .int)] A gm_T RX11 cX11_layAllow 6 none wsX11_layAllow) {N : Nat} {out : Int32 × Int32 × Int32 × (Nat → Int32)} {r20 : Int32 → Int32 → Int32 → (Nat → Int32) → Int32 → Option (Int32 × Int32 × Int32 × (Nat → Int32))} (hr20 : ∀ (m_allowed : Int32) (m_firstPair : Int32) (m_secondPair : Int32) (m_tongue : Nat → Int32) (x3 : Int32) (H : Heap) (locs : List Loc) (ls : Array Slot), r20 m_allowed m_firstPair m_secondPair m_tongue x3 = some out → gm_H (dC, dI) A s (wX11_layAllow cI q q_tongue q_refused q_fresh q_kept q_isKept q_text q_said q_talk m_thrown m_size m_at m_start m_token m_value m_faultAt m_allowed m_firstPair m_secondPair m_above m_below m_tongue) H locs → lv_has ls 6 [(0, .ref q), (1, .int x1), (2, .int x2), (3, .int x3)] → W p l e rX11_layAllow s m args below meth c H locs 0 0 (MQ below (gm_Q (dC, dI) [(cI, .int)] A none (wX11_layAllow cI q q_tongue q_refused q_fresh q_kept q_isKept q_text q_said q_talk m_thrown m_size m_at m_start m_token m_value m_faultAt out.1 out.2.1 out.2.2.1 m_above m_below out.2.2.2)) args s 0 0 A) (F0 m 20 ls [])) {r36 : Int32 → Int32 → Int32 → (Nat → Int32) → Int32 → Option (Int32 × Int32 × Int32 × (Nat → Int32))} (hr36 : ∀ (m_allowed : Int32) (m_firstPair : Int32) (m_secondPair : Int32) (m_tongue : Nat → Int32) (x4 : Int32) (H : Heap) (locs : List Loc) (ls : Array Slot), r36 m_allowed m_firstPair m_secondPair m_tongue x4 = some out → gm_H (dC, dI) A s (wX11_layAllow cI q q_tongue q_refused q_fresh q_kept q_isKept q_text q_said q_talk m_thrown m_size m_at m_start m_token m_value m_faultAt m_allowed m_firstPair m_secondPair m_above m_below m_tongue) H locs → lv_has ls 6 [(0, .ref q), (1, .int x1), (2, .int x2), (3, .int x3), (4, .int x4)] → W p l e rX11_layAllow s m args below meth c H locs 0 0 (MQ below (gm_Q (dC, dI) [(cI, .int)] A none (wX11_layAllow cI q q_tongue q_refused q_fresh q_kept q_isKept q_text q_said q_talk m_thrown m_size m_at m_start m_token m_value m_faultAt out.1 out.2.1 out.2.2.1 m_above m_below out.2.2.2)) args s 0 0 A) (F0 m 36 ls []))   {H : Heap} {locs : List Loc} {ls : Array Slot} (h : fX11_layAllow_b148 N r20 r36 m_allowed m_firstPair m_secondPair m_tongue x1 x2 x3 x4 = some out) (hH : gm_H (dC, dI) A s (wX11_layAllow cI q q_tongue q_refused q_fresh q_kept q_isKept q_text q_said q_talk m_thrown m_size m_at m_start m_token m_value m_faultAt m_allowed m_firstPair m_secondPair m_above m_below m_tongue) H locs) (hl : lv_has ls 6 [(0, .ref q), (1, .int x1), (2, .int x2), (3, .int x3), (4, .int x4)]) : W p l e rX11_layAllow s m args below meth c H locs 0 0 (MQ below (gm_Q (dC, dI) [(cI, .int)] A none (wX11_layAllow cI q q_tongue q_refused q_fresh q_kept q_isKept q_text q_said q_talk m_thrown m_size m_at m_start m_token m_value m_faultAt out.1 out.2.1 out.2.2.1 m_above m_below out.2.2.2)) args s 0 0 A) (F0 m 148 ls []) := by
  obtain ⟨hx, hb, hml, hr, hown, hts, hA, hK, hX, hlocks⟩ := id C0
  unfold fX11_layAllow_b148 at h
  refine lv_iinc (v := (x4 + 1)) (lv' := [(4, .int (x4 + 1)), (0, .ref q), (1, .int x1), (2, .int x2), (3, .int x3)]) hx hb dX11_layAllow_148 hl (k := 4) rfl rfl (by decide) rfl (fun ls hl => ?_)
  refine lv_goto (tgt := 36) hx hb dX11_layAllow_151 (by decide) ?_
  exact hr36 _ _ _ _ _ _ _ _ h hH (lv_sub hl [1, 2, 3, 4, 0] rfl)
set_option maxRecDepth 100000 in
set_option maxHeartbeats 4000000 in
theorem tX11_layAllow_b142 {p : Program} {l : Launch} {e : Env} {s : State} {m : MethodId} {args : Array Value} {below : List Frame} {meth : Method} {c : Code} {A : Nat → Prop} {dC : Nat → ClassId} {dI : Nat → Nat → Nat} {cI : ClassId} {q q_tongue q_refused q_fresh q_kept q_isKept q_text q_said q_talk : Nat} {m_thrown : Int32} {m_size : Int32} {m_at : Int32} {m_start : Int32} {m_token : Int32} {m_value : Int64} {m_faultAt : Int32} {m_allowed : Int32} {m_firstPair : Int32} {m_secondPair : Int32} {m_above : Int64} {m_below : Int64} {m_tongue : Nat → Int32} {x1 : Int32} {x2 : Int32} {x3 : Int32} {x4 : Int32} {x5 : Int32} (C0 : gm_C p s m args meth c (dC, dI) [(cI, .int)] A gm_T RX11 cX11_layAllow 6 none wsX11_layAllow) {N : Nat} {out : Int32 × Int32 × Int32 × (Nat → Int32)} {r20 : Int32 → Int32 → Int32 → (Nat → Int32) → Int32 → Option (Int32 × Int32 × Int32 × (Nat → Int32))} (hr20 : ∀ (m_allowed : Int32) (m_firstPair : Int32) (m_secondPair : Int32) (m_tongue : Nat → Int32) (x3 : Int32) (H : Heap) (locs : List Loc) (ls : Array Slot), r20 m_allowed m_firstPair m_secondPair m_tongue x3 = some out → gm_H (dC, dI) A s (wX11_layAllow cI q q_tongue q_refused q_fresh q_kept q_isKept q_text q_said q_talk m_thrown m_size m_at m_start m_token m_value m_faultAt m_allowed m_firstPair m_secondPair m_above m_below m_tongue) H locs → lv_has ls 6 [(0, .ref q), (1, .int x1), (2, .int x2), (3, .int x3)] → W p l e rX11_layAllow s m args below meth c H locs 0 0 (MQ below (gm_Q (dC, dI) [(cI, .int)] A none (wX11_layAllow cI q q_tongue q_refused q_fresh q_kept q_isKept q_text q_said q_talk m_thrown m_size m_at m_start m_token m_value m_faultAt out.1 out.2.1 out.2.2.1 m_above m_below out.2.2.2)) args s 0 0 A) (F0 m 20 ls [])) {r36 : Int32 → Int32 → Int32 → (Nat → Int32) → Int32 → Option (Int32 × Int32 × Int32 × (Nat → Int32))} (hr36 : ∀ (m_allowed : Int32) (m_firstPair : Int32) (m_secondPair : Int32) (m_tongue : Nat → Int32) (x4 : Int32) (H : Heap) (locs : List Loc) (ls : Array Slot), r36 m_allowed m_firstPair m_secondPair m_tongue x4 = some out → gm_H (dC, dI) A s (wX11_layAllow cI q q_tongue q_refused q_fresh q_kept q_isKept q_text q_said q_talk m_thrown m_size m_at m_start m_token m_value m_faultAt m_allowed m_firstPair m_secondPair m_above m_below m_tongue) H locs → lv_has ls 6 [(0, .ref q), (1, .int x1), (2, .int x2), (3, .int x3), (4, .int x4)] → W p l e rX11_layAllow s m args below meth c H locs 0 0 (MQ below (gm_Q (dC, dI) [(cI, .int)] A none (wX11_layAllow cI q q_tongue q_refused q_fresh q_kept q_isKept q_text q_said q_talk m_thrown m_size m_at m_start m_token m_value m_faultAt out.1 out.2.1 out.2.2.1 m_above m_below out.2.2.2)) args s 0 0 A) (F0 m 36 ls [])) {r67 : Int32 → Int32 → Int32 → (Nat → Int32) → Int32 → Option (Int32 × Int32 × Int32 × (Nat → Int32))} (hr67 : ∀ (m_allowed : Int32) (m_firstPair : Int32) (m_secondPair : Int32) (m_tongue : Nat → Int32) (x5 : Int32) (H : Heap) (locs : List Loc) (ls : Array Slot), r67 m_allowed m_firstPair m_secondPair m_tongue x5 = some out → gm_H (dC, dI) A s (wX11_layAllow cI q q_tongue q_refused q_fresh q_kept q_isKept q_text q_said q_talk m_thrown m_size m_at m_start m_token m_value m_faultAt m_allowed m_firstPair m_secondPair m_above m_below m_tongue) H locs → lv_has ls 6 [(0, .ref q), (1, .int x1), (2, .int x2), (3, .int x3), (4, .int x4), (5, .int x5)] → W p l e rX11_layAllow s m args below meth c H locs 0 0 (MQ below (gm_Q (dC, dI) [(cI, .int)] A none (wX11_layAllow cI q q_tongue q_refused q_fresh q_kept q_isKept q_text q_said q_talk m_thrown m_size m_at m_start m_token m_value m_faultAt out.1 out.2.1 out.2.2.1 m_above m_below out.2.2.2)) args s 0 0 A) (F0 m 67 ls []))   {H : Heap} {locs : List Loc} {ls : Array Slot} (h : fX11_layAllow_b142 N r20 r36 r67 m_allowed m_firstPair m_secondPair m_tongue x1 x2 x3 x4 x5 = some out) (hH : gm_H (dC, dI) A s (wX11_layAllow cI q q_tongue q_refused q_fresh q_kept q_isKept q_text q_said q_talk m_thrown m_size m_at m_start m_token m_value m_faultAt m_allowed m_firstPair m_secondPair m_above m_below m_tongue) H locs) (hl : lv_has ls 6 [(0, .ref q), (1, .int x1), (2, .int x2), (3, .int x3), (4, .int x4), (5, .int x5)]) : W p l e rX11_layAllow s m args below meth c H locs 0 0 (MQ below (gm_Q (dC, dI) [(cI, .int)] A none (wX11_layAllow cI q q_tongue q_refused q_fresh q_kept q_isKept q_text q_said q_talk m_thrown m_size m_at m_start m_token m_value m_faultAt out.1 out.2.1 out.2.2.1 m_above m_below out.2.2.2)) args s 0 0 A) (F0 m 142 ls []) := by
  obtain ⟨hx, hb, hml, hr, hown, hts, hA, hK, hX, hlocks⟩ := id C0
  unfold fX11_layAllow_b142 at h
  refine lv_iinc (v := (x5 + 1)) (lv' := [(5, .int (x5 + 1)), (0, .ref q), (1, .int x1), (2, .int x2), (3, .int x3), (4, .int x4)]) hx hb dX11_layAllow_142 hl (k := 5) rfl rfl (by decide) rfl (fun ls hl => ?_)
  refine lv_goto (tgt := 67) hx hb dX11_layAllow_145 (by decide) ?_
  exact hr67 _ _ _ _ _ _ _ _ h hH (lv_sub hl [1, 2, 3, 4, 5, 0] rfl)
set_option maxRecDepth 100000 in
set_option maxHeartbeats 4000000 in
theorem tX11_layAllow_b83 {p : Program} {l : Launch} {e : Env} {s : State} {m : MethodId} {args : Array Value} {below : List Frame} {meth : Method} {c : Code} {A : Nat → Prop} {dC : Nat → ClassId} {dI : Nat → Nat → Nat} {cI : ClassId} {q q_tongue q_refused q_fresh q_kept q_isKept q_text q_said q_talk : Nat} {m_thrown : Int32} {m_size : Int32} {m_at : Int32} {m_start : Int32} {m_token : Int32} {m_value : Int64} {m_faultAt : Int32} {m_allowed : Int32} {m_firstPair : Int32} {m_secondPair : Int32} {m_above : Int64} {m_below : Int64} {m_tongue : Nat → Int32} {x1 : Int32} {x2 : Int32} {x3 : Int32} {x4 : Int32} {x5 : Int32} {k0 : Int32} {k1 : Int32} (C0 : gm_C p s m args meth c (dC, dI) [(cI, .int)] A gm_T RX11 cX11_layAllow 6 none wsX11_layAllow) {N : Nat} {out : Int32 × Int32 × Int32 × (Nat → Int32)} {r20 : Int32 → Int32 → Int32 → (Nat → Int32) → Int32 → Option (Int32 × Int32 × Int32 × (Nat → Int32))} (hr20 : ∀ (m_allowed : Int32) (m_firstPair : Int32) (m_secondPair : Int32) (m_tongue : Nat → Int32) (x3 : Int32) (H : Heap) (locs : List Loc) (ls : Array Slot), r20 m_allowed m_firstPair m_secondPair m_tongue x3 = some out → gm_H (dC, dI) A s (wX11_layAllow cI q q_tongue q_refused q_fresh q_kept q_isKept q_text q_said q_talk m_thrown m_size m_at m_start m_token m_value m_faultAt m_allowed m_firstPair m_secondPair m_above m_below m_tongue) H locs → lv_has ls 6 [(0, .ref q), (1, .int x1), (2, .int x2), (3, .int x3)] → W p l e rX11_layAllow s m args below meth c H locs 0 0 (MQ below (gm_Q (dC, dI) [(cI, .int)] A none (wX11_layAllow cI q q_tongue q_refused q_fresh q_kept q_isKept q_text q_said q_talk m_thrown m_size m_at m_start m_token m_value m_faultAt out.1 out.2.1 out.2.2.1 m_above m_below out.2.2.2)) args s 0 0 A) (F0 m 20 ls [])) {r36 : Int32 → Int32 → Int32 → (Nat → Int32) → Int32 → Option (Int32 × Int32 × Int32 × (Nat → Int32))} (hr36 : ∀ (m_allowed : Int32) (m_firstPair : Int32) (m_secondPair : Int32) (m_tongue : Nat → Int32) (x4 : Int32) (H : Heap) (locs : List Loc) (ls : Array Slot), r36 m_allowed m_firstPair m_secondPair m_tongue x4 = some out → gm_H (dC, dI) A s (wX11_layAllow cI q q_tongue q_refused q_fresh q_kept q_isKept q_text q_said q_talk m_thrown m_size m_at m_start m_token m_value m_faultAt m_allowed m_firstPair m_secondPair m_above m_below m_tongue) H locs → lv_has ls 6 [(0, .ref q), (1, .int x1), (2, .int x2), (3, .int x3), (4, .int x4)] → W p l e rX11_layAllow s m args below meth c H locs 0 0 (MQ below (gm_Q (dC, dI) [(cI, .int)] A none (wX11_layAllow cI q q_tongue q_refused q_fresh q_kept q_isKept q_text q_said q_talk m_thrown m_size m_at m_start m_token m_value m_faultAt out.1 out.2.1 out.2.2.1 m_above m_below out.2.2.2)) args s 0 0 A) (F0 m 36 ls [])) {r67 : Int32 → Int32 → Int32 → (Nat → Int32) → Int32 → Option (Int32 × Int32 × Int32 × (Nat → Int32))} (hr67 : ∀ (m_allowed : Int32) (m_firstPair : Int32) (m_secondPair : Int32) (m_tongue : Nat → Int32) (x5 : Int32) (H : Heap) (locs : List Loc) (ls : Array Slot), r67 m_allowed m_firstPair m_secondPair m_tongue x5 = some out → gm_H (dC, dI) A s (wX11_layAllow cI q q_tongue q_refused q_fresh q_kept q_isKept q_text q_said q_talk m_thrown m_size m_at m_start m_token m_value m_faultAt m_allowed m_firstPair m_secondPair m_above m_below m_tongue) H locs → lv_has ls 6 [(0, .ref q), (1, .int x1), (2, .int x2), (3, .int x3), (4, .int x4), (5, .int x5)] → W p l e rX11_layAllow s m args below meth c H locs 0 0 (MQ below (gm_Q (dC, dI) [(cI, .int)] A none (wX11_layAllow cI q q_tongue q_refused q_fresh q_kept q_isKept q_text q_said q_talk m_thrown m_size m_at m_start m_token m_value m_faultAt out.1 out.2.1 out.2.2.1 m_above m_below out.2.2.2)) args s 0 0 A) (F0 m 67 ls []))   {H : Heap} {locs : List Loc} {ls : Array Slot} (h : fX11_layAllow_b83 N r20 r36 r67 m_allowed m_firstPair m_secondPair m_tongue x1 x2 x3 x4 x5 k0 k1 = some out) (hH : gm_H (dC, dI) A s (wX11_layAllow cI q q_tongue q_refused q_fresh q_kept q_isKept q_text q_said q_talk m_thrown m_size m_at m_start m_token m_value m_faultAt m_allowed m_firstPair m_secondPair m_above m_below m_tongue) H locs) (hl : lv_has ls 6 [(0, .ref q), (1, .int x1), (2, .int x2), (3, .int x3), (4, .int x4), (5, .int x5)]) : W p l e rX11_layAllow s m args below meth c H locs 0 0 (MQ below (gm_Q (dC, dI) [(cI, .int)] A none (wX11_layAllow cI q q_tongue q_refused q_fresh q_kept q_isKept q_text q_said q_talk m_thrown m_size m_at m_start m_token m_value m_faultAt out.1 out.2.1 out.2.2.1 m_above m_below out.2.2.2)) args s 0 0 A) (F0 m 83 ls [.int k1, .int k0]) := by
  obtain ⟨hx, hb, hml, hr, hown, hts, hA, hK, hX, hlocks⟩ := id C0
  unfold fX11_layAllow_b83 at h
  refine lv_icmp_ge (tgt := 148) hx hb dX11_layAllow_83 (by decide) (fun hc9 => ?_) (fun hc9 => ?_)
  · replace h := gm_pos hc9 h
    exact tX11_layAllow_b148 C0 hr20 hr36 h hH (lv_sub hl [0, 1, 2, 3, 4] rfl)
  · replace h := gm_neg hc9 h
    refine lv_aload_n hx hb dX11_layAllow_86 rfl (lv_at hl 0 rfl) ?_
    refine gm_get (ci := 11) C0 hH inX11_layAllow_X11 0 15 1 rfl rfl (by decide) rfl rfl dX11_layAllow_87 ?_
    refine lv_iconst (v := (-1)) hx hb dX11_layAllow_90 (by decide) ?_
    refine lv_icmp_ne (tgt := 148) hx hb dX11_layAllow_91 (by decide) (fun hc10 => ?_) (fun hc10 => ?_)
    · replace h := gm_neg hc10 h
      exact tX11_layAllow_b148 C0 hr20 hr36 h hH (lv_sub hl [0, 1, 2, 3, 4] rfl)
    · replace h := gm_pos hc10 h
      refine lv_aload_n hx hb dX11_layAllow_94 rfl (lv_at hl 0 rfl) ?_
      refine lv_iload hx hb dX11_layAllow_95 (lv_at hl 4 rfl) ?_
      obtain ⟨o11, ho11, h⟩ := gm_bind_e h
      refine gm_callV (As := [.int x4]) (rest := []) (n := 1) (ci := 11) (q0 := 0) C0 hH (mX11_isFree l dC dI cI q q_tongue q_refused q_fresh q_kept q_isKept q_text q_said q_talk m_thrown m_size m_at m_start m_token m_value m_faultAt m_allowed m_firstPair m_secondPair m_above m_below m_tongue x4   ho11) gX11_layAllow_X11_isFree rfl (by decide +kernel) ⟨rfl, rfl, Nat.le_of_ble_eq_true rfl, Nat.le_of_ble_eq_true rfl⟩ gm_T_ok (fun _ => trivial) [0, 1] rfl rfl rfl [0] rfl rfl rfl rfl hl.1 rfl (Nat.le_of_ble_eq_true rfl) dX11_layAllow_97 ⟨Nat.zero_le _, Nat.zero_le _⟩ (fun H locs hH => ?_)
      have hH : gm_H (dC, dI) A s (wX11_layAllow cI q q_tongue q_refused q_fresh q_kept q_isKept q_text q_said q_talk m_thrown m_size m_at m_start m_token m_value m_faultAt m_allowed m_firstPair m_secondPair m_above m_below m_tongue) H locs := hH
      refine lv_if_eq (tgt := 142) hx hb dX11_layAllow_100 (by decide) (fun hc12 => ?_) (fun hc12 => ?_)
      · replace h := gm_pos hc12 h
        exact tX11_layAllow_b142 C0 hr20 hr36 hr67 h hH (lv_sub hl [0, 1, 2, 3, 4, 5] rfl)
      · replace h := gm_neg hc12 h
        refine lv_aload_n hx hb dX11_layAllow_103 rfl (lv_at hl 0 rfl) ?_
        refine lv_iload hx hb dX11_layAllow_104 (lv_at hl 5 rfl) ?_
        obtain ⟨o13, ho13, h⟩ := gm_bind_e h
        refine gm_callV (As := [.int x5]) (rest := []) (n := 1) (ci := 11) (q0 := 0) C0 hH (mX11_isFree l dC dI cI q q_tongue q_refused q_fresh q_kept q_isKept q_text q_said q_talk m_thrown m_size m_at m_start m_token m_value m_faultAt m_allowed m_firstPair m_secondPair m_above m_below m_tongue x5   ho13) gX11_layAllow_X11_isFree rfl (by decide +kernel) ⟨rfl, rfl, Nat.le_of_ble_eq_true rfl, Nat.le_of_ble_eq_true rfl⟩ gm_T_ok (fun _ => trivial) [0, 1] rfl rfl rfl [0] rfl rfl rfl rfl hl.1 rfl (Nat.le_of_ble_eq_true rfl) dX11_layAllow_106 ⟨Nat.zero_le _, Nat.zero_le _⟩ (fun H locs hH => ?_)
        have hH : gm_H (dC, dI) A s (wX11_layAllow cI q q_tongue q_refused q_fresh q_kept q_isKept q_text q_said q_talk m_thrown m_size m_at m_start m_token m_value m_faultAt m_allowed m_firstPair m_secondPair m_above m_below m_tongue) H locs := hH
        refine lv_if_eq (tgt := 142) hx hb dX11_layAllow_109 (by decide) (fun hc14 => ?_) (fun hc14 => ?_)
        · replace h := gm_pos hc14 h
          exact tX11_layAllow_b142 C0 hr20 hr36 hr67 h hH (lv_sub hl [0, 1, 2, 3, 4, 5] rfl)
        · replace h := gm_neg hc14 h
          refine lv_aload_n hx hb dX11_layAllow_112 rfl (lv_at hl 0 rfl) ?_
          refine lv_iload_n hx hb dX11_layAllow_113 rfl (lv_at hl 1 rfl) ?_
          refine lv_iload_n hx hb dX11_layAllow_114 rfl (lv_at hl 2 rfl) ?_
          refine lv_iload hx hb dX11_layAllow_115 (lv_at hl 4 rfl) ?_
          refine lv_iload hx hb dX11_layAllow_117 (lv_at hl 5 rfl) ?_
          obtain ⟨o15, ho15, h⟩ := gm_bind_e h
          refine gm_callV (As := [.int x1, .int x2, .int x4, .int x5]) (rest := []) (n := 4) (ci := 11) (q0 := 0) C0 hH (mX11_canSayWith l dC dI cI q q_tongue q_refused q_fresh q_kept q_isKept q_text q_said q_talk m_thrown m_size m_at m_start m_token m_value m_faultAt m_allowed m_firstPair m_secondPair m_above m_below m_tongue x1 x2 x4 x5   ho15) gX11_layAllow_X11_canSayWith rfl (by decide +kernel) ⟨rfl, rfl, Nat.le_of_ble_eq_true rfl, Nat.le_of_ble_eq_true rfl⟩ gm_T_ok (fun _ => trivial) [0, 1] rfl rfl rfl [0] rfl rfl rfl rfl hl.1 rfl (Nat.le_of_ble_eq_true rfl) dX11_layAllow_119 ⟨Nat.zero_le _, Nat.zero_le _⟩ (fun H locs hH => ?_)
          have hH : gm_H (dC, dI) A s (wX11_layAllow cI q q_tongue q_refused q_fresh q_kept q_isKept q_text q_said q_talk m_thrown m_size m_at m_start m_token m_value m_faultAt m_allowed m_firstPair m_secondPair m_above m_below o15.2) H locs := hH
          refine lv_if_eq (tgt := 142) hx hb dX11_layAllow_122 (by decide) (fun hc16 => ?_) (fun hc16 => ?_)
          · replace h := gm_pos hc16 h
            exact tX11_layAllow_b142 C0 hr20 hr36 hr67 h hH (lv_sub hl [0, 1, 2, 3, 4, 5] rfl)
          · replace h := gm_neg hc16 h
            refine lv_aload_n hx hb dX11_layAllow_125 rfl (lv_at hl 0 rfl) ?_
            refine lv_iload_n hx hb dX11_layAllow_126 rfl (lv_at hl 3 rfl) ?_
            refine gm_putf (ci := 11) C0 hH inX11_layAllow_X11 tyX11_ok nmX11 0 15 1 rfl rfl (by decide) rfl rfl rfl rfl rfl (Nat.le_of_ble_eq_true rfl) dX11_layAllow_127 (fun H locs hH => ?_)
            have hH : gm_H (dC, dI) A s (wX11_layAllow cI q q_tongue q_refused q_fresh q_kept q_isKept q_text q_said q_talk m_thrown m_size m_at m_start m_token m_value m_faultAt x3 m_firstPair m_secondPair m_above m_below o15.2) H locs := hH
            refine lv_aload_n hx hb dX11_layAllow_130 rfl (lv_at hl 0 rfl) ?_
            refine lv_iload hx hb dX11_layAllow_131 (lv_at hl 4 rfl) ?_
            refine gm_putf (ci := 11) C0 hH inX11_layAllow_X11 tyX11_ok nmX11 0 16 2 rfl rfl (by decide) rfl rfl rfl rfl rfl (Nat.le_of_ble_eq_true rfl) dX11_layAllow_133 (fun H locs hH => ?_)
            have hH : gm_H (dC, dI) A s (wX11_layAllow cI q q_tongue q_refused q_fresh q_kept q_isKept q_text q_said q_talk m_thrown m_size m_at m_start m_token m_value m_faultAt x3 x4 m_secondPair m_above m_below o15.2) H locs := hH
            refine lv_aload_n hx hb dX11_layAllow_136 rfl (lv_at hl 0 rfl) ?_
            refine lv_iload hx hb dX11_layAllow_137 (lv_at hl 5 rfl) ?_
            refine gm_putf (ci := 11) C0 hH inX11_layAllow_X11 tyX11_ok nmX11 0 17 3 rfl rfl (by decide) rfl rfl rfl rfl rfl (Nat.le_of_ble_eq_true rfl) dX11_layAllow_139 (fun H locs hH => ?_)
            have hH : gm_H (dC, dI) A s (wX11_layAllow cI q q_tongue q_refused q_fresh q_kept q_isKept q_text q_said q_talk m_thrown m_size m_at m_start m_token m_value m_faultAt x3 x4 x5 m_above m_below o15.2) H locs := hH
            exact tX11_layAllow_b142 C0 hr20 hr36 hr67 h hH (lv_sub hl [0, 1, 2, 3, 4, 5] rfl)
set_option maxRecDepth 100000 in
set_option maxHeartbeats 4000000 in
theorem tX11_layAllow_b67 {p : Program} {l : Launch} {e : Env} {s : State} {m : MethodId} {args : Array Value} {below : List Frame} {meth : Method} {c : Code} {A : Nat → Prop} {dC : Nat → ClassId} {dI : Nat → Nat → Nat} {cI : ClassId} {q q_tongue q_refused q_fresh q_kept q_isKept q_text q_said q_talk : Nat} {m_thrown : Int32} {m_size : Int32} {m_at : Int32} {m_start : Int32} {m_token : Int32} {m_value : Int64} {m_faultAt : Int32} {m_above : Int64} {m_below : Int64} {x1 : Int32} {x2 : Int32} {x3 : Int32} {x4 : Int32} (C0 : gm_C p s m args meth c (dC, dI) [(cI, .int)] A gm_T RX11 cX11_layAllow 6 none wsX11_layAllow) {N : Nat} {out : Int32 × Int32 × Int32 × (Nat → Int32)} {r20 : Int32 → Int32 → Int32 → (Nat → Int32) → Int32 → Option (Int32 × Int32 × Int32 × (Nat → Int32))} (hr20 : ∀ (m_allowed : Int32) (m_firstPair : Int32) (m_secondPair : Int32) (m_tongue : Nat → Int32) (x3 : Int32) (H : Heap) (locs : List Loc) (ls : Array Slot), r20 m_allowed m_firstPair m_secondPair m_tongue x3 = some out → gm_H (dC, dI) A s (wX11_layAllow cI q q_tongue q_refused q_fresh q_kept q_isKept q_text q_said q_talk m_thrown m_size m_at m_start m_token m_value m_faultAt m_allowed m_firstPair m_secondPair m_above m_below m_tongue) H locs → lv_has ls 6 [(0, .ref q), (1, .int x1), (2, .int x2), (3, .int x3)] → W p l e rX11_layAllow s m args below meth c H locs 0 0 (MQ below (gm_Q (dC, dI) [(cI, .int)] A none (wX11_layAllow cI q q_tongue q_refused q_fresh q_kept q_isKept q_text q_said q_talk m_thrown m_size m_at m_start m_token m_value m_faultAt out.1 out.2.1 out.2.2.1 m_above m_below out.2.2.2)) args s 0 0 A) (F0 m 20 ls [])) {r36 : Int32 → Int32 → Int32 → (Nat → Int32) → Int32 → Option (Int32 × Int32 × Int32 × (Nat → Int32))} (hr36 : ∀ (m_allowed : Int32) (m_firstPair : Int32) (m_secondPair : Int32) (m_tongue : Nat → Int32) (x4 : Int32) (H : Heap) (locs : List Loc) (ls : Array Slot), r36 m_allowed m_firstPair m_secondPair m_tongue x4 = some out → gm_H (dC, dI) A s (wX11_layAllow cI q q_tongue q_refused q_fresh q_kept q_isKept q_text q_said q_talk m_thrown m_size m_at m_start m_token m_value m_faultAt m_allowed m_firstPair m_secondPair m_above m_below m_tongue) H locs → lv_has ls 6 [(0, .ref q), (1, .int x1), (2, .int x2), (3, .int x3), (4, .int x4)] → W p l e rX11_layAllow s m args below meth c H locs 0 0 (MQ below (gm_Q (dC, dI) [(cI, .int)] A none (wX11_layAllow cI q q_tongue q_refused q_fresh q_kept q_isKept q_text q_said q_talk m_thrown m_size m_at m_start m_token m_value m_faultAt out.1 out.2.1 out.2.2.1 m_above m_below out.2.2.2)) args s 0 0 A) (F0 m 36 ls []))  : ∀ (n : Nat), ∀ (m_allowed : Int32) (m_firstPair : Int32) (m_secondPair : Int32) (m_tongue : Nat → Int32) (x5 : Int32) (H : Heap) (locs : List Loc) (ls : Array Slot), (gm_fix (fX11_layAllow_b67_body N r20 r36 x1 x2 x3 x4) (fun _ _ _ _ _ => none) n) m_allowed m_firstPair m_secondPair m_tongue x5 = some out → gm_H (dC, dI) A s (wX11_layAllow cI q q_tongue q_refused q_fresh q_kept q_isKept q_text q_said q_talk m_thrown m_size m_at m_start m_token m_value m_faultAt m_allowed m_firstPair m_secondPair m_above m_below m_tongue) H locs → lv_has ls 6 [(0, .ref q), (1, .int x1), (2, .int x2), (3, .int x3), (4, .int x4), (5, .int x5)] → W p l e rX11_layAllow s m args below meth c H locs 0 0 (MQ below (gm_Q (dC, dI) [(cI, .int)] A none (wX11_layAllow cI q q_tongue q_refused q_fresh q_kept q_isKept q_text q_said q_talk m_thrown m_size m_at m_start m_token m_value m_faultAt out.1 out.2.1 out.2.2.1 m_above m_below out.2.2.2)) args s 0 0 A) (F0 m 67 ls []) := by
  obtain ⟨hx, hb, hml, hr, hown, hts, hA, hK, hX, hlocks⟩ := id C0
  intro n
  induction n with
  | zero =>
    intro m_allowed m_firstPair m_secondPair m_tongue x5 H locs ls h hH hl
    cases h
  | succ n hr67 =>
    intro m_allowed m_firstPair m_secondPair m_tongue x5 H locs ls h hH hl
    rw [gm_fix_s] at h
    unfold fX11_layAllow_b67_body at h
    refine lv_iload hx hb dX11_layAllow_67 (lv_at hl 5 rfl) ?_
    refine lv_iload_n hx hb dX11_layAllow_69 rfl (lv_at hl 3 rfl) ?_
    refine lv_iconst (v := 1) hx hb dX11_layAllow_70 (by decide) ?_
    refine lv_icmp_ne (tgt := 81) hx hb dX11_layAllow_71 (by decide) (fun hc8 => ?_) (fun hc8 => ?_)
    · replace h := gm_neg hc8 h
      refine lv_bipush (v := 68) hx hb dX11_layAllow_81 (by decide) ?_
      exact tX11_layAllow_b83 C0 hr20 hr36 hr67 h hH (lv_sub hl [0, 1, 2, 3, 4, 5] rfl)
    · replace h := gm_pos hc8 h
      refine lv_iload hx hb dX11_layAllow_74 (lv_at hl 4 rfl) ?_
      refine lv_iconst (v := 1) hx hb dX11_layAllow_76 (by decide) ?_
      refine lv_iadd hx hb dX11_layAllow_77 ?_
      refine lv_goto (tgt := 83) hx hb dX11_layAllow_78 (by decide) ?_
      exact tX11_layAllow_b83 C0 hr20 hr36 hr67 h hH (lv_sub hl [0, 1, 2, 3, 4, 5] rfl)
set_option maxRecDepth 100000 in
set_option maxHeartbeats 4000000 in
theorem tX11_layAllow_b65 {p : Program} {l : Launch} {e : Env} {s : State} {m : MethodId} {args : Array Value} {below : List Frame} {meth : Method} {c : Code} {A : Nat → Prop} {dC : Nat → ClassId} {dI : Nat → Nat → Nat} {cI : ClassId} {q q_tongue q_refused q_fresh q_kept q_isKept q_text q_said q_talk : Nat} {m_thrown : Int32} {m_size : Int32} {m_at : Int32} {m_start : Int32} {m_token : Int32} {m_value : Int64} {m_faultAt : Int32} {m_allowed : Int32} {m_firstPair : Int32} {m_secondPair : Int32} {m_above : Int64} {m_below : Int64} {m_tongue : Nat → Int32} {x1 : Int32} {x2 : Int32} {x3 : Int32} {x4 : Int32} {k0 : Int32} (C0 : gm_C p s m args meth c (dC, dI) [(cI, .int)] A gm_T RX11 cX11_layAllow 6 none wsX11_layAllow) {N : Nat} {out : Int32 × Int32 × Int32 × (Nat → Int32)} {r20 : Int32 → Int32 → Int32 → (Nat → Int32) → Int32 → Option (Int32 × Int32 × Int32 × (Nat → Int32))} (hr20 : ∀ (m_allowed : Int32) (m_firstPair : Int32) (m_secondPair : Int32) (m_tongue : Nat → Int32) (x3 : Int32) (H : Heap) (locs : List Loc) (ls : Array Slot), r20 m_allowed m_firstPair m_secondPair m_tongue x3 = some out → gm_H (dC, dI) A s (wX11_layAllow cI q q_tongue q_refused q_fresh q_kept q_isKept q_text q_said q_talk m_thrown m_size m_at m_start m_token m_value m_faultAt m_allowed m_firstPair m_secondPair m_above m_below m_tongue) H locs → lv_has ls 6 [(0, .ref q), (1, .int x1), (2, .int x2), (3, .int x3)] → W p l e rX11_layAllow s m args below meth c H locs 0 0 (MQ below (gm_Q (dC, dI) [(cI, .int)] A none (wX11_layAllow cI q q_tongue q_refused q_fresh q_kept q_isKept q_text q_said q_talk m_thrown m_size m_at m_start m_token m_value m_faultAt out.1 out.2.1 out.2.2.1 m_above m_below out.2.2.2)) args s 0 0 A) (F0 m 20 ls [])) {r36 : Int32 → Int32 → Int32 → (Nat → Int32) → Int32 → Option (Int32 × Int32 × Int32 × (Nat → Int32))} (hr36 : ∀ (m_allowed : Int32) (m_firstPair : Int32) (m_secondPair : Int32) (m_tongue : Nat → Int32) (x4 : Int32) (H : Heap) (locs : List Loc) (ls : Array Slot), r36 m_allowed m_firstPair m_secondPair m_tongue x4 = some out → gm_H (dC, dI) A s (wX11_layAllow cI q q_tongue q_refused q_fresh q_kept q_isKept q_text q_said q_talk m_thrown m_size m_at m_start m_token m_value m_faultAt m_allowed m_firstPair m_secondPair m_above m_below m_tongue) H locs → lv_has ls 6 [(0, .ref q), (1, .int x1), (2, .int x2), (3, .int x3), (4, .int x4)] → W p l e rX11_layAllow s m args below meth c H locs 0 0 (MQ below (gm_Q (dC, dI) [(cI, .int)] A none (wX11_layAllow cI q q_tongue q_refused q_fresh q_kept q_isKept q_text q_said q_talk m_thrown m_size m_at m_start m_token m_value m_faultAt out.1 out.2.1 out.2.2.1 m_above m_below out.2.2.2)) args s 0 0 A) (F0 m 36 ls []))   {H : Heap} {locs : List Loc} {ls : Array Slot} (h : fX11_layAllow_b65 N r20 r36 m_allowed m_firstPair m_secondPair m_tongue x1 x2 x3 x4 k0 = some out) (hH : gm_H (dC, dI) A s (wX11_layAllow cI q q_tongue q_refused q_fresh q_kept q_isKept q_text q_said q_talk m_thrown m_size m_at m_start m_token m_value m_faultAt m_allowed m_firstPair m_secondPair m_above m_below m_tongue) H locs) (hl : lv_has ls 6 [(0, .ref q), (1, .int x1), (2, .int x2), (3, .int x3), (4, .int x4)]) : W p l e rX11_layAllow s m args below meth c H locs 0 0 (MQ below (gm_Q (dC, dI) [(cI, .int)] A none (wX11_layAllow cI q q_tongue q_refused q_fresh q_kept q_isKept q_text q_said q_talk m_thrown m_size m_at m_start m_token m_value m_faultAt out.1 out.2.1 out.2.2.1 m_above m_below out.2.2.2)) args s 0 0 A) (F0 m 65 ls [.int k0]) := by
  obtain ⟨hx, hb, hml, hr, hown, hts, hA, hK, hX, hlocks⟩ := id C0
  unfold fX11_layAllow_b65 at h
  refine lv_istore (lv' := [(5, .int k0), (0, .ref q), (1, .int x1), (2, .int x2), (3, .int x3), (4, .int x4)]) hx hb dX11_layAllow_65 hl (by decide) rfl (fun ls hl => ?_)
  unfold fX11_layAllow_b67 at h
  exact tX11_layAllow_b67 C0 hr20 hr36 _ _ _ _ _ _ _ _ _ h hH (lv_sub hl [1, 2, 3, 4, 5, 0] rfl)
set_option maxRecDepth 100000 in
set_option maxHeartbeats 4000000 in
theorem tX11_layAllow_b36 {p : Program} {l : Launch} {e : Env} {s : State} {m : MethodId} {args : Array Value} {below : List Frame} {meth : Method} {c : Code} {A : Nat → Prop} {dC : Nat → ClassId} {dI : Nat → Nat → Nat} {cI : ClassId} {q q_tongue q_refused q_fresh q_kept q_isKept q_text q_said q_talk : Nat} {m_thrown : Int32} {m_size : Int32} {m_at : Int32} {m_start : Int32} {m_token : Int32} {m_value : Int64} {m_faultAt : Int32} {m_above : Int64} {m_below : Int64} {x1 : Int32} {x2 : Int32} {x3 : Int32} (C0 : gm_C p s m args meth c (dC, dI) [(cI, .int)] A gm_T RX11 cX11_layAllow 6 none wsX11_layAllow) {N : Nat} {out : Int32 × Int32 × Int32 × (Nat → Int32)} {r20 : Int32 → Int32 → Int32 → (Nat → Int32) → Int32 → Option (Int32 × Int32 × Int32 × (Nat → Int32))} (hr20 : ∀ (m_allowed : Int32) (m_firstPair : Int32) (m_secondPair : Int32) (m_tongue : Nat → Int32) (x3 : Int32) (H : Heap) (locs : List Loc) (ls : Array Slot), r20 m_allowed m_firstPair m_secondPair m_tongue x3 = some out → gm_H (dC, dI) A s (wX11_layAllow cI q q_tongue q_refused q_fresh q_kept q_isKept q_text q_said q_talk m_thrown m_size m_at m_start m_token m_value m_faultAt m_allowed m_firstPair m_secondPair m_above m_below m_tongue) H locs → lv_has ls 6 [(0, .ref q), (1, .int x1), (2, .int x2), (3, .int x3)] → W p l e rX11_layAllow s m args below meth c H locs 0 0 (MQ below (gm_Q (dC, dI) [(cI, .int)] A none (wX11_layAllow cI q q_tongue q_refused q_fresh q_kept q_isKept q_text q_said q_talk m_thrown m_size m_at m_start m_token m_value m_faultAt out.1 out.2.1 out.2.2.1 m_above m_below out.2.2.2)) args s 0 0 A) (F0 m 20 ls []))  : ∀ (n : Nat), ∀ (m_allowed : Int32) (m_firstPair : Int32) (m_secondPair : Int32) (m_tongue : Nat → Int32) (x4 : Int32) (H : Heap) (locs : List Loc) (ls : Array Slot), (gm_fix (fX11_layAllow_b36_body N r20 x1 x2 x3) (fun _ _ _ _ _ => none) n) m_allowed m_firstPair m_secondPair m_tongue x4 = some out → gm_H (dC, dI) A s (wX11_layAllow cI q q_tongue q_refused q_fresh q_kept q_isKept q_text q_said q_talk m_thrown m_size m_at m_start m_token m_value m_faultAt m_allowed m_firstPair m_secondPair m_above m_below m_tongue) H locs → lv_has ls 6 [(0, .ref q), (1, .int x1), (2, .int x2), (3, .int x3), (4, .int x4)] → W p l e rX11_layAllow s m args below meth c H locs 0 0 (MQ below (gm_Q (dC, dI) [(cI, .int)] A none (wX11_layAllow cI q q_tongue q_refused q_fresh q_kept q_isKept q_text q_said q_talk m_thrown m_size m_at m_start m_token m_value m_faultAt out.1 out.2.1 out.2.2.1 m_above m_below out.2.2.2)) args s 0 0 A) (F0 m 36 ls []) := by
  obtain ⟨hx, hb, hml, hr, hown, hts, hA, hK, hX, hlocks⟩ := id C0
  intro n
  induction n with
  | zero =>
    intro m_allowed m_firstPair m_secondPair m_tongue x4 H locs ls h hH hl
    cases h
  | succ n hr36 =>
    intro m_allowed m_firstPair m_secondPair m_tongue x4 H locs ls h hH hl
    rw [gm_fix_s] at h
    unfold fX11_layAllow_b36_body at h
    refine lv_iload hx hb dX11_layAllow_36 (lv_at hl 4 rfl) ?_
    refine lv_bipush (v := 68) hx hb dX11_layAllow_38 (by decide) ?_
    refine lv_icmp_ge (tgt := 154) hx hb dX11_layAllow_40 (by decide) (fun hc5 => ?_) (fun hc5 => ?_)
    · replace h := gm_pos hc5 h
      exact tX11_layAllow_b154 C0 hr20 h hH (lv_sub hl [0, 1, 2, 3] rfl)
    · replace h := gm_neg hc5 h
      refine lv_aload_n hx hb dX11_layAllow_43 rfl (lv_at hl 0 rfl) ?_
      refine gm_get (ci := 11) C0 hH inX11_layAllow_X11 0 15 1 rfl rfl (by decide) rfl rfl dX11_layAllow_44 ?_
      refine lv_iconst (v := (-1)) hx hb dX11_layAllow_47 (by decide) ?_
      refine lv_icmp_ne (tgt := 154) hx hb dX11_layAllow_48 (by decide) (fun hc6 => ?_) (fun hc6 => ?_)
      · replace h := gm_neg hc6 h
        exact tX11_layAllow_b154 C0 hr20 h hH (lv_sub hl [0, 1, 2, 3] rfl)
      · replace h := gm_pos hc6 h
        refine lv_iload_n hx hb dX11_layAllow_51 rfl (lv_at hl 3 rfl) ?_
        refine lv_iconst (v := 1) hx hb dX11_layAllow_52 (by decide) ?_
        refine lv_icmp_ne (tgt := 61) hx hb dX11_layAllow_53 (by decide) (fun hc7 => ?_) (fun hc7 => ?_)
        · replace h := gm_neg hc7 h
          refine lv_iload hx hb dX11_layAllow_61 (lv_at hl 4 rfl) ?_
          refine lv_iconst (v := 1) hx hb dX11_layAllow_63 (by decide) ?_
          refine lv_iadd hx hb dX11_layAllow_64 ?_
          exact tX11_layAllow_b65 C0 hr20 hr36 h hH (lv_sub hl [0, 1, 2, 3, 4] rfl)
        · replace h := gm_pos hc7 h
          refine lv_iload hx hb dX11_layAllow_56 (lv_at hl 4 rfl) ?_
          refine lv_goto (tgt := 65) hx hb dX11_layAllow_58 (by decide) ?_
          exact tX11_layAllow_b65 C0 hr20 hr36 h hH (lv_sub hl [0, 1, 2, 3, 4] rfl)
set_option maxRecDepth 100000 in
set_option maxHeartbeats 4000000 in
theorem tX11_layAllow_b20 {p : Program} {l : Launch} {e : Env} {s : State} {m : MethodId} {args : Array Value} {below : List Frame} {meth : Method} {c : Code} {A : Nat → Prop} {dC : Nat → ClassId} {dI : Nat → Nat → Nat} {cI : ClassId} {q q_tongue q_refused q_fresh q_kept q_isKept q_text q_said q_talk : Nat} {m_thrown : Int32} {m_size : Int32} {m_at : Int32} {m_start : Int32} {m_token : Int32} {m_value : Int64} {m_faultAt : Int32} {m_above : Int64} {m_below : Int64} {x1 : Int32} {x2 : Int32} (C0 : gm_C p s m args meth c (dC, dI) [(cI, .int)] A gm_T RX11 cX11_layAllow 6 none wsX11_layAllow) {N : Nat} {out : Int32 × Int32 × Int32 × (Nat → Int32)}   : ∀ (n : Nat), ∀ (m_allowed : Int32) (m_firstPair : Int32) (m_secondPair : Int32) (m_tongue : Nat → Int32) (x3 : Int32) (H : Heap) (locs : List Loc) (ls : Array Slot), (gm_fix (fX11_layAllow_b20_body N  x1 x2) (fun _ _ _ _ _ => none) n) m_allowed m_firstPair m_secondPair m_tongue x3 = some out → gm_H (dC, dI) A s (wX11_layAllow cI q q_tongue q_refused q_fresh q_kept q_isKept q_text q_said q_talk m_thrown m_size m_at m_start m_token m_value m_faultAt m_allowed m_firstPair m_secondPair m_above m_below m_tongue) H locs → lv_has ls 6 [(0, .ref q), (1, .int x1), (2, .int x2), (3, .int x3)] → W p l e rX11_layAllow s m args below meth c H locs 0 0 (MQ below (gm_Q (dC, dI) [(cI, .int)] A none (wX11_layAllow cI q q_tongue q_refused q_fresh q_kept q_isKept q_text q_said q_talk m_thrown m_size m_at m_start m_token m_value m_faultAt out.1 out.2.1 out.2.2.1 m_above m_below out.2.2.2)) args s 0 0 A) (F0 m 20 ls []) := by
  obtain ⟨hx, hb, hml, hr, hown, hts, hA, hK, hX, hlocks⟩ := id C0
  intro n
  induction n with
  | zero =>
    intro m_allowed m_firstPair m_secondPair m_tongue x3 H locs ls h hH hl
    cases h
  | succ n hr20 =>
    intro m_allowed m_firstPair m_secondPair m_tongue x3 H locs ls h hH hl
    rw [gm_fix_s] at h
    unfold fX11_layAllow_b20_body at h
    refine lv_iload_n hx hb dX11_layAllow_20 rfl (lv_at hl 3 rfl) ?_
    refine lv_iconst (v := 3) hx hb dX11_layAllow_21 (by decide) ?_
    refine lv_icmp_ge (tgt := 160) hx hb dX11_layAllow_22 (by decide) (fun hc3 => ?_) (fun hc3 => ?_)
    · replace h := gm_pos hc3 h
      obtain rfl := Option.some.inj h
      exact gm_vret C0 hH dX11_layAllow_160
    · replace h := gm_neg hc3 h
      refine lv_aload_n hx hb dX11_layAllow_25 rfl (lv_at hl 0 rfl) ?_
      refine gm_get (ci := 11) C0 hH inX11_layAllow_X11 0 15 1 rfl rfl (by decide) rfl rfl dX11_layAllow_26 ?_
      refine lv_iconst (v := (-1)) hx hb dX11_layAllow_29 (by decide) ?_
      refine lv_icmp_ne (tgt := 160) hx hb dX11_layAllow_30 (by decide) (fun hc4 => ?_) (fun hc4 => ?_)
      · replace h := gm_neg hc4 h
        obtain rfl := Option.some.inj h
        exact gm_vret C0 hH dX11_layAllow_160
      · replace h := gm_pos hc4 h
        refine lv_iconst (v := 0) hx hb dX11_layAllow_33 (by decide) ?_
        refine lv_istore (lv' := [(4, .int 0), (0, .ref q), (1, .int x1), (2, .int x2), (3, .int x3)]) hx hb dX11_layAllow_34 hl (by decide) rfl (fun ls hl => ?_)
        unfold fX11_layAllow_b36 at h
        exact tX11_layAllow_b36 C0 hr20 _ _ _ _ _ _ _ _ _ h hH (lv_sub hl [1, 2, 3, 4, 0] rfl)
set_option maxRecDepth 100000 in
set_option maxHeartbeats 4000000 in
theorem tX11_layAllow_b15 {p : Program} {l : Launch} {e : Env} {s : State} {m : MethodId} {args : Array Value} {below : List Frame} {meth : Method} {c : Code} {A : Nat → Prop} {dC : Nat → ClassId} {dI : Nat → Nat → Nat} {cI : ClassId} {q q_tongue q_refused q_fresh q_kept q_isKept q_text q_said q_talk : Nat} {m_thrown : Int32} {m_size : Int32} {m_at : Int32} {m_start : Int32} {m_token : Int32} {m_value : Int64} {m_faultAt : Int32} {m_allowed : Int32} {m_firstPair : Int32} {m_secondPair : Int32} {m_above : Int64} {m_below : Int64} {m_tongue : Nat → Int32} {x1 : Int32} {x2 : Int32} {k1 : Int32} (C0 : gm_C p s m args meth c (dC, dI) [(cI, .int)] A gm_T RX11 cX11_layAllow 6 none wsX11_layAllow) {N : Nat} {out : Int32 × Int32 × Int32 × (Nat → Int32)}    {H : Heap} {locs : List Loc} {ls : Array Slot} (h : fX11_layAllow_b15 N  m_allowed m_firstPair m_secondPair m_tongue x1 x2 k1 = some out) (hH : gm_H (dC, dI) A s (wX11_layAllow cI q q_tongue q_refused q_fresh q_kept q_isKept q_text q_said q_talk m_thrown m_size m_at m_start m_token m_value m_faultAt m_allowed m_firstPair m_secondPair m_above m_below m_tongue) H locs) (hl : lv_has ls 6 [(0, .ref q), (1, .int x1), (2, .int x2)]) : W p l e rX11_layAllow s m args below meth c H locs 0 0 (MQ below (gm_Q (dC, dI) [(cI, .int)] A none (wX11_layAllow cI q q_tongue q_refused q_fresh q_kept q_isKept q_text q_said q_talk m_thrown m_size m_at m_start m_token m_value m_faultAt out.1 out.2.1 out.2.2.1 m_above m_below out.2.2.2)) args s 0 0 A) (F0 m 15 ls [.int k1, .ref q]) := by
  obtain ⟨hx, hb, hml, hr, hown, hts, hA, hK, hX, hlocks⟩ := id C0
  unfold fX11_layAllow_b15 at h
  refine gm_putf (ci := 11) C0 hH inX11_layAllow_X11 tyX11_ok nmX11 0 15 1 rfl rfl (by decide) rfl rfl rfl rfl rfl (Nat.le_of_ble_eq_true rfl) dX11_layAllow_15 (fun H locs hH => ?_)
  have hH : gm_H (dC, dI) A s (wX11_layAllow cI q q_tongue q_refused q_fresh q_kept q_isKept q_text q_said q_talk m_thrown m_size m_at m_start m_token m_value m_faultAt k1 m_firstPair m_secondPair m_above m_below m_tongue) H locs := hH
  refine lv_iconst (v := 1) hx hb dX11_layAllow_18 (by decide) ?_
  refine lv_istore_n (lv' := [(3, .int 1), (0, .ref q), (1, .int x1), (2, .int x2)]) hx hb dX11_layAllow_19 rfl hl (by decide) rfl (fun ls hl => ?_)
  unfold fX11_layAllow_b20 at h
  exact tX11_layAllow_b20 C0  _ _ _ _ _ _ _ _ _ h hH (lv_sub hl [1, 2, 3, 0] rfl)
set_option maxRecDepth 100000 in
set_option maxHeartbeats 4000000 in
theorem mX11_layAllow (l : Launch) (dC : Nat → ClassId) (dI : Nat → Nat → Nat) (cI : ClassId) (q q_tongue q_refused q_fresh q_kept q_isKept q_text q_said q_talk : Nat) (m_thrown : Int32) (m_size : Int32) (m_at : Int32) (m_start : Int32) (m_token : Int32) (m_value : Int64) (m_faultAt : Int32) (m_allowed : Int32) (m_firstPair : Int32) (m_secondPair : Int32) (m_above : Int64) (m_below : Int64) (m_tongue : Nat → Int32) (x1 : Int32) (x2 : Int32)  {N : Nat} {out : Int32 × Int32 × Int32 × (Nat → Int32)} (h : fX11_layAllow N m_allowed m_firstPair m_secondPair m_tongue x1 x2 = some out) : gm_Met l yX11_layAllow wsX11_layAllow rX11_layAllow (dC, dI) [(cI, .int)] gm_T [.ref q, .int x1, .int x2] (wX11_layAllow cI q q_tongue q_refused q_fresh q_kept q_isKept q_text q_said q_talk m_thrown m_size m_at m_start m_token m_value m_faultAt m_allowed m_firstPair m_secondPair m_above m_below m_tongue) none (wX11_layAllow cI q q_tongue q_refused q_fresh q_kept q_isKept q_text q_said q_talk m_thrown m_size m_at m_start m_token m_value m_faultAt out.1 out.2.1 out.2.2.1 m_above m_below out.2.2.2) := by
  refine gm_ofW (cc := cX11_layAllow) (maxL := 6) (ret := none) (by decide +kernel) rfl (Nat.le_of_ble_eq_true rfl) ?_
  intro p e s m below meth c A C0 hH ls hl
  generalize ([.ref q, .int x1, .int x2] : List Value).toArray = args at C0 ⊢
  have hl : lv_has ls 6 [(0, .ref q), (1, .int x1), (2, .int x2)] := hl
  generalize s.heap = H at hH ⊢
  generalize ([] : List Loc) = locs at hH ⊢
  obtain ⟨hx, hb, hml, hr, hown, hts, hA, hK, hX, hlocks⟩ := id C0
  unfold fX11_layAllow at h
  refine lv_aload_n hx hb dX11_layAllow_0 rfl (lv_at hl 0 rfl) ?_
  refine lv_aload_n hx hb dX11_layAllow_1 rfl (lv_at hl 0 rfl) ?_
  refine lv_iload_n hx hb dX11_layAllow_2 rfl (lv_at hl 1 rfl) ?_
  refine lv_iload_n hx hb dX11_layAllow_3 rfl (lv_at hl 2 rfl) ?_
  obtain ⟨o1, ho1, h⟩ := gm_bind_e h
  refine gm_callV (As := [.int x1, .int x2]) (rest := [.ref q]) (n := 2) (ci := 11) (q0 := 0) C0 hH (mX11_canSayAll l dC dI cI q q_tongue q_refused q_fresh q_kept q_isKept q_text q_said q_talk m_thrown m_size m_at m_start m_token m_value m_faultAt m_allowed m_firstPair m_secondPair m_above m_below m_tongue x1 x2   ho1) gX11_layAllow_X11_canSayAll rfl (by decide +kernel) ⟨rfl, rfl, Nat.le_of_ble_eq_true rfl, Nat.le_of_ble_eq_true rfl⟩ gm_T_ok (fun _ => trivial) [0, 1] rfl rfl rfl [0] rfl rfl rfl rfl hl.1 rfl (Nat.le_of_ble_eq_true rfl) dX11_layAllow_4 ⟨Nat.zero_le _, Nat.zero_le _⟩ (fun H locs hH => ?_)
  have hH : gm_H (dC, dI) A s (wX11_layAllow cI q q_tongue q_refused q_fresh q_kept q_isKept q_text q_said q_talk m_thrown m_size m_at m_start m_token m_value m_faultAt m_allowed m_firstPair m_secondPair m_above m_below m_tongue) H locs := hH
  refine lv_if_eq (tgt := 14) hx hb dX11_layAllow_7 (by decide) (fun hc2 => ?_) (fun hc2 => ?_)
  · replace h := gm_pos hc2 h
    refine lv_iconst (v := (-1)) hx hb dX11_layAllow_14 (by decide) ?_
    exact tX11_layAllow_b15 C0  h hH (lv_sub hl [0, 1, 2] rfl)
  · replace h := gm_neg hc2 h
    refine lv_iconst (v := 0) hx hb dX11_layAllow_10 (by decide) ?_
    refine lv_goto (tgt := 15) hx hb dX11_layAllow_11 (by decide) ?_
    exact tX11_layAllow_b15 C0  h hH (lv_sub hl [0, 1, 2] rfl)

/-! X11_allow -/
abbrev wX11_allow (cI : ClassId) (q q_refused q_tongue q_fresh q_kept q_isKept q_text q_said q_talk : Nat) (m_thrown : Int32) (m_size : Int32) (m_at : Int32) (m_start : Int32) (m_token : Int32) (m_value : Int64) (m_faultAt : Int32) (m_allowed : Int32) (m_firstPair : Int32) (m_secondPair : Int32) (m_above : Int64) (m_below : Int64) (m_refused : Nat → Int32) (m_tongue : Nat → Int32) : va_W := [(q, .inr (11, [.int m_thrown, .ref q_refused, .ref q_tongue, .ref q_fresh, .ref q_kept, .ref q_isKept, .ref q_text, .int m_size, .int m_at, .int m_start, .int m_token, .long m_value, .int m_faultAt, .ref q_said, .ref q_talk, .int m_allowed, .int m_firstPair, .int m_secondPair, .long m_above, .long m_below])), (q_refused, .inl (cI, 3, .inl m_refused)), (q_tongue, .inl (cI, 73, .inl m_tongue))]
abbrev rX11_allow : Room := { frames := 10, cells := 0, slots := 0, locals := 231 }
def fX11_allow_b25 (N : Nat)  (m_thrown : Int32) (m_allowed : Int32) (m_firstPair : Int32) (m_secondPair : Int32) (m_refused : Nat → Int32) (m_tongue : Nat → Int32) : Option (Int32 × Int32 × Int32 × Int32 × Int32 × (Nat → Int32) × (Nat → Int32)) := gm_bind (fX11_badTen N m_refused) (fun o3 => some (o3.1, m_thrown, m_allowed, m_firstPair, m_secondPair, o3.2, m_tongue))
def fX11_allow (N : Nat) (m_thrown : Int32) (m_allowed : Int32) (m_firstPair : Int32) (m_secondPair : Int32) (m_refused : Nat → Int32) (m_tongue : Nat → Int32) (x1 : Int32) (x2 : Int32) (x3 : Int32) : Option (Int32 × Int32 × Int32 × Int32 × Int32 × (Nat → Int32) × (Nat → Int32)) := gm_bind (fX11_noPerson N m_tongue x1) (fun o1 => (if o1 = 0 then gm_bind (fX11_areMeanings N x2) (fun o4 => (if o4 = 0 then (fX11_allow_b25 N  0 m_allowed m_firstPair m_secondPair m_refused m_tongue) else (if (-1) ≤ x3 then gm_bind (fX11_layAllow N m_allowed m_firstPair m_secondPair m_tongue x1 x2) (fun o7 => (if o7.1 = (-1) then some (o7.1, 0, o7.1, o7.2.1, o7.2.2.1, m_refused, o7.2.2.2) else (if x3 = (-1) then some (o7.1, 0, o7.1, o7.2.1, o7.2.2.1, m_refused, o7.2.2.2) else (if x3 < o7.1 then (if x3 = 0 then some (o7.2.1, 0, o7.1, o7.2.1, o7.2.2.1, m_refused, o7.2.2.2) else some (o7.2.2.1, 0, o7.1, o7.2.1, o7.2.2.1, m_refused, o7.2.2.2)) else some ((-5), 0, o7.1, o7.2.1, o7.2.2.1, m_refused, o7.2.2.2))))) else (fX11_allow_b25 N  0 m_allowed m_firstPair m_secondPair m_refused m_tongue)))) else (fX11_allow_b25 N  0 m_allowed m_firstPair m_secondPair m_refused m_tongue)))
set_option maxRecDepth 20000 in
theorem inX11_allow_X11 : ∀ w ∈ u_ws RX11 TX11 20, w ∈ wsX11_allow := fun w h => by
  obtain ⟨k, hk, rfl⟩ := List.mem_map.mp h
  have hk2 := List.mem_range.mp hk
  exact List.mem_of_getElem? (i := 97 + k) (by rcases (show k = 0 ∨ k = 1 ∨ k = 2 ∨ k = 3 ∨ k = 4 ∨ k = 5 ∨ k = 6 ∨ k = 7 ∨ k = 8 ∨ k = 9 ∨ k = 10 ∨ k = 11 ∨ k = 12 ∨ k = 13 ∨ k = 14 ∨ k = 15 ∨ k = 16 ∨ k = 17 ∨ k = 18 ∨ k = 19 by omega) with rfl | rfl | rfl | rfl | rfl | rfl | rfl | rfl | rfl | rfl | rfl | rfl | rfl | rfl | rfl | rfl | rfl | rfl | rfl | rfl <;> rfl)
set_option maxRecDepth 100000 in
set_option maxHeartbeats 4000000 in
theorem tX11_allow_b25 {p : Program} {l : Launch} {e : Env} {s : State} {m : MethodId} {args : Array Value} {below : List Frame} {meth : Method} {c : Code} {A : Nat → Prop} {dC : Nat → ClassId} {dI : Nat → Nat → Nat} {cI : ClassId} {q q_refused q_tongue q_fresh q_kept q_isKept q_text q_said q_talk : Nat} {m_thrown : Int32} {m_size : Int32} {m_at : Int32} {m_start : Int32} {m_token : Int32} {m_value : Int64} {m_faultAt : Int32} {m_allowed : Int32} {m_firstPair : Int32} {m_secondPair : Int32} {m_above : Int64} {m_below : Int64} {m_refused : Nat → Int32} {m_tongue : Nat → Int32} (C0 : gm_C p s m args meth c (dC, dI) [(cI, .int)] A gm_T RX11 cX11_allow 4 (some .int) wsX11_allow) {N : Nat} {out : Int32 × Int32 × Int32 × Int32 × Int32 × (Nat → Int32) × (Nat → Int32)}    {H : Heap} {locs : List Loc} {ls : Array Slot} (h : fX11_allow_b25 N  m_thrown m_allowed m_firstPair m_secondPair m_refused m_tongue = some out) (hH : gm_H (dC, dI) A s (wX11_allow cI q q_refused q_tongue q_fresh q_kept q_isKept q_text q_said q_talk m_thrown m_size m_at m_start m_token m_value m_faultAt m_allowed m_firstPair m_secondPair m_above m_below m_refused m_tongue) H locs) (hl : lv_has ls 4 [(0, .ref q)]) : W p l e rX11_allow s m args below meth c H locs 0 0 (MQ below (gm_Q (dC, dI) [(cI, .int)] A (some (.int out.1)) (wX11_allow cI q q_refused q_tongue q_fresh q_kept q_isKept q_text q_said q_talk out.2.1 m_size m_at m_start m_token m_value m_faultAt out.2.2.1 out.2.2.2.1 out.2.2.2.2.1 m_above m_below out.2.2.2.2.2.1 out.2.2.2.2.2.2)) args s 0 0 A) (F0 m 25 ls []) := by
  obtain ⟨hx, hb, hml, hr, hown, hts, hA, hK, hX, hlocks⟩ := id C0
  unfold fX11_allow_b25 at h
  refine lv_aload_n hx hb dX11_allow_25 rfl (lv_at hl 0 rfl) ?_
  obtain ⟨o3, ho3, h⟩ := gm_bind_e h
  refine gm_callV (As := []) (rest := []) (n := 0) (ci := 11) (q0 := 0) C0 hH (mX11_badTen l dC dI cI q q_refused q_tongue q_fresh q_kept q_isKept q_text q_said q_talk m_thrown m_size m_at m_start m_token m_value m_faultAt m_allowed m_firstPair m_secondPair m_above m_below m_refused    ho3) gX11_allow_X11_badTen rfl (by decide +kernel) ⟨rfl, rfl, Nat.le_of_ble_eq_true rfl, Nat.le_of_ble_eq_true rfl⟩ gm_T_ok (fun _ => trivial) [0, 1] rfl rfl rfl [0] rfl rfl rfl rfl hl.1 rfl (Nat.le_of_ble_eq_true rfl) dX11_allow_26 ⟨Nat.zero_le _, Nat.zero_le _⟩ (fun H locs hH => ?_)
  have hH : gm_H (dC, dI) A s (wX11_allow cI q q_refused q_tongue q_fresh q_kept q_isKept q_text q_said q_talk m_thrown m_size m_at m_start m_token m_value m_faultAt m_allowed m_firstPair m_secondPair m_above m_below o3.2 m_tongue) H locs := hH
  obtain rfl := Option.some.inj h
  exact gm_iret C0 hH dX11_allow_29
set_option maxRecDepth 100000 in
set_option maxHeartbeats 4000000 in
theorem mX11_allow (l : Launch) (dC : Nat → ClassId) (dI : Nat → Nat → Nat) (cI : ClassId) (q q_refused q_tongue q_fresh q_kept q_isKept q_text q_said q_talk : Nat) (m_thrown : Int32) (m_size : Int32) (m_at : Int32) (m_start : Int32) (m_token : Int32) (m_value : Int64) (m_faultAt : Int32) (m_allowed : Int32) (m_firstPair : Int32) (m_secondPair : Int32) (m_above : Int64) (m_below : Int64) (m_refused : Nat → Int32) (m_tongue : Nat → Int32) (x1 : Int32) (x2 : Int32) (x3 : Int32)  {N : Nat} {out : Int32 × Int32 × Int32 × Int32 × Int32 × (Nat → Int32) × (Nat → Int32)} (h : fX11_allow N m_thrown m_allowed m_firstPair m_secondPair m_refused m_tongue x1 x2 x3 = some out) : gm_Met l yX11_allow wsX11_allow rX11_allow (dC, dI) [(cI, .int)] gm_T [.ref q, .int x1, .int x2, .int x3] (wX11_allow cI q q_refused q_tongue q_fresh q_kept q_isKept q_text q_said q_talk m_thrown m_size m_at m_start m_token m_value m_faultAt m_allowed m_firstPair m_secondPair m_above m_below m_refused m_tongue) (some (.int out.1)) (wX11_allow cI q q_refused q_tongue q_fresh q_kept q_isKept q_text q_said q_talk out.2.1 m_size m_at m_start m_token m_value m_faultAt out.2.2.1 out.2.2.2.1 out.2.2.2.2.1 m_above m_below out.2.2.2.2.2.1 out.2.2.2.2.2.2) := by
  refine gm_ofW (cc := cX11_allow) (maxL := 4) (ret := (some .int)) (by decide +kernel) rfl (Nat.le_of_ble_eq_true rfl) ?_
  intro p e s m below meth c A C0 hH ls hl
  generalize ([.ref q, .int x1, .int x2, .int x3] : List Value).toArray = args at C0 ⊢
  have hl : lv_has ls 4 [(0, .ref q), (1, .int x1), (2, .int x2), (3, .int x3)] := hl
  generalize s.heap = H at hH ⊢
  generalize ([] : List Loc) = locs at hH ⊢
  obtain ⟨hx, hb, hml, hr, hown, hts, hA, hK, hX, hlocks⟩ := id C0
  unfold fX11_allow at h
  refine lv_aload_n hx hb dX11_allow_0 rfl (lv_at hl 0 rfl) ?_
  refine lv_iconst (v := 0) hx hb dX11_allow_1 (by decide) ?_
  refine gm_putf (ci := 11) C0 hH inX11_allow_X11 tyX11_ok nmX11 0 0 1 rfl rfl (by decide) rfl rfl rfl rfl rfl (Nat.le_of_ble_eq_true rfl) dX11_allow_2 (fun H locs hH => ?_)
  have hH : gm_H (dC, dI) A s (wX11_allow cI q q_refused q_tongue q_fresh q_kept q_isKept q_text q_said q_talk 0 m_size m_at m_start m_token m_value m_faultAt m_allowed m_firstPair m_secondPair m_above m_below m_refused m_tongue) H locs := hH
  refine lv_aload_n hx hb dX11_allow_5 rfl (lv_at hl 0 rfl) ?_
  refine lv_iload_n hx hb dX11_allow_6 rfl (lv_at hl 1 rfl) ?_
  obtain ⟨o1, ho1, h⟩ := gm_bind_e h
  refine gm_callV (As := [.int x1]) (rest := []) (n := 1) (ci := 11) (q0 := 0) C0 hH (mX11_noPerson l dC dI cI q q_tongue q_refused q_fresh q_kept q_isKept q_text q_said q_talk 0 m_size m_at m_start m_token m_value m_faultAt m_allowed m_firstPair m_secondPair m_above m_below m_tongue x1   ho1) gX11_allow_X11_noPerson rfl (by decide +kernel) ⟨rfl, rfl, Nat.le_of_ble_eq_true rfl, Nat.le_of_ble_eq_true rfl⟩ gm_T_ok (fun _ => trivial) [0, 2] rfl rfl rfl [0] rfl rfl rfl rfl hl.1 rfl (Nat.le_of_ble_eq_true rfl) dX11_allow_7 ⟨Nat.zero_le _, Nat.zero_le _⟩ (fun H locs hH => ?_)
  have hH : gm_H (dC, dI) A s (wX11_allow cI q q_refused q_tongue q_fresh q_kept q_isKept q_text q_said q_talk 0 m_size m_at m_start m_token m_value m_faultAt m_allowed m_firstPair m_secondPair m_above m_below m_refused m_tongue) H locs := hH
  refine lv_if_ne (tgt := 25) hx hb dX11_allow_10 (by decide) (fun hc2 => ?_) (fun hc2 => ?_)
  · replace h := gm_neg hc2 h
    exact tX11_allow_b25 C0  h hH (lv_sub hl [0] rfl)
  · replace h := gm_pos hc2 h
    refine lv_iload_n hx hb dX11_allow_13 rfl (lv_at hl 2 rfl) ?_
    obtain ⟨o4, ho4, h⟩ := gm_bind_e h
    refine gm_callS (As := [.int x2]) (rest := []) (n := 1) C0 hH (mX11_areMeanings l dC dI    x2   ho4) gX11_allow_X11_areMeanings rfl (by decide +kernel) ⟨rfl, rfl, Nat.le_of_ble_eq_true rfl, Nat.le_of_ble_eq_true rfl⟩ gm_T_ok (fun _ => trivial) [] rfl rfl rfl [] rfl rfl hl.1 rfl (Nat.le_of_ble_eq_true rfl) dX11_allow_14 ⟨Nat.zero_le _, Nat.zero_le _⟩ (fun H locs hH => ?_)
    have hH : gm_H (dC, dI) A s (wX11_allow cI q q_refused q_tongue q_fresh q_kept q_isKept q_text q_said q_talk 0 m_size m_at m_start m_token m_value m_faultAt m_allowed m_firstPair m_secondPair m_above m_below m_refused m_tongue) H locs := hH
    refine lv_if_eq (tgt := 25) hx hb dX11_allow_17 (by decide) (fun hc5 => ?_) (fun hc5 => ?_)
    · replace h := gm_pos hc5 h
      exact tX11_allow_b25 C0  h hH (lv_sub hl [0] rfl)
    · replace h := gm_neg hc5 h
      refine lv_iload_n hx hb dX11_allow_20 rfl (lv_at hl 3 rfl) ?_
      refine lv_iconst (v := (-1)) hx hb dX11_allow_21 (by decide) ?_
      refine lv_icmp_ge (tgt := 30) hx hb dX11_allow_22 (by decide) (fun hc6 => ?_) (fun hc6 => ?_)
      · replace h := gm_pos hc6 h
        refine lv_aload_n hx hb dX11_allow_30 rfl (lv_at hl 0 rfl) ?_
        refine lv_iload_n hx hb dX11_allow_31 rfl (lv_at hl 1 rfl) ?_
        refine lv_iload_n hx hb dX11_allow_32 rfl (lv_at hl 2 rfl) ?_
        obtain ⟨o7, ho7, h⟩ := gm_bind_e h
        refine gm_callV (As := [.int x1, .int x2]) (rest := []) (n := 2) (ci := 11) (q0 := 0) C0 hH (mX11_layAllow l dC dI cI q q_tongue q_refused q_fresh q_kept q_isKept q_text q_said q_talk 0 m_size m_at m_start m_token m_value m_faultAt m_allowed m_firstPair m_secondPair m_above m_below m_tongue x1 x2   ho7) gX11_allow_X11_layAllow rfl (by decide +kernel) ⟨rfl, rfl, Nat.le_of_ble_eq_true rfl, Nat.le_of_ble_eq_true rfl⟩ gm_T_ok (fun _ => trivial) [0, 2] rfl rfl rfl [0] rfl rfl rfl rfl hl.1 rfl (Nat.le_of_ble_eq_true rfl) dX11_allow_33 ⟨Nat.zero_le _, Nat.zero_le _⟩ (fun H locs hH => ?_)
        have hH : gm_H (dC, dI) A s (wX11_allow cI q q_refused q_tongue q_fresh q_kept q_isKept q_text q_said q_talk 0 m_size m_at m_start m_token m_value m_faultAt o7.1 o7.2.1 o7.2.2.1 m_above m_below m_refused o7.2.2.2) H locs := hH
        refine lv_aload_n hx hb dX11_allow_36 rfl (lv_at hl 0 rfl) ?_
        refine gm_get (ci := 11) C0 hH inX11_allow_X11 0 15 2 rfl rfl (by decide) rfl rfl dX11_allow_37 ?_
        refine lv_iconst (v := (-1)) hx hb dX11_allow_40 (by decide) ?_
        refine lv_icmp_eq (tgt := 49) hx hb dX11_allow_41 (by decide) (fun hc8 => ?_) (fun hc8 => ?_)
        · replace h := gm_pos hc8 h
          refine lv_aload_n hx hb dX11_allow_49 rfl (lv_at hl 0 rfl) ?_
          refine gm_get (ci := 11) C0 hH inX11_allow_X11 0 15 2 rfl rfl (by decide) rfl rfl dX11_allow_50 ?_
          obtain rfl := Option.some.inj h
          exact gm_iret C0 hH dX11_allow_53
        · replace h := gm_neg hc8 h
          refine lv_iload_n hx hb dX11_allow_44 rfl (lv_at hl 3 rfl) ?_
          refine lv_iconst (v := (-1)) hx hb dX11_allow_45 (by decide) ?_
          refine lv_icmp_ne (tgt := 54) hx hb dX11_allow_46 (by decide) (fun hc9 => ?_) (fun hc9 => ?_)
          · replace h := gm_neg hc9 h
            refine lv_iload_n hx hb dX11_allow_54 rfl (lv_at hl 3 rfl) ?_
            refine lv_aload_n hx hb dX11_allow_55 rfl (lv_at hl 0 rfl) ?_
            refine gm_get (ci := 11) C0 hH inX11_allow_X11 0 15 2 rfl rfl (by decide) rfl rfl dX11_allow_56 ?_
            refine lv_icmp_lt (tgt := 67) hx hb dX11_allow_59 (by decide) (fun hc10 => ?_) (fun hc10 => ?_)
            · replace h := gm_pos hc10 h
              refine lv_iload_n hx hb dX11_allow_67 rfl (lv_at hl 3 rfl) ?_
              refine lv_if_ne (tgt := 78) hx hb dX11_allow_68 (by decide) (fun hc11 => ?_) (fun hc11 => ?_)
              · replace h := gm_neg hc11 h
                refine lv_aload_n hx hb dX11_allow_78 rfl (lv_at hl 0 rfl) ?_
                refine gm_get (ci := 11) C0 hH inX11_allow_X11 0 17 4 rfl rfl (by decide) rfl rfl dX11_allow_79 ?_
                obtain rfl := Option.some.inj h
                exact gm_iret C0 hH dX11_allow_82
              · replace h := gm_pos hc11 h
                refine lv_aload_n hx hb dX11_allow_71 rfl (lv_at hl 0 rfl) ?_
                refine gm_get (ci := 11) C0 hH inX11_allow_X11 0 16 3 rfl rfl (by decide) rfl rfl dX11_allow_72 ?_
                refine lv_goto (tgt := 82) hx hb dX11_allow_75 (by decide) ?_
                obtain rfl := Option.some.inj h
                exact gm_iret C0 hH dX11_allow_82
            · replace h := gm_neg hc10 h
              refine lv_bipush (v := (-5)) hx hb dX11_allow_62 (by decide) ?_
              refine lv_goto (tgt := 82) hx hb dX11_allow_64 (by decide) ?_
              obtain rfl := Option.some.inj h
              exact gm_iret C0 hH dX11_allow_82
          · replace h := gm_pos hc9 h
            refine lv_aload_n hx hb dX11_allow_49 rfl (lv_at hl 0 rfl) ?_
            refine gm_get (ci := 11) C0 hH inX11_allow_X11 0 15 2 rfl rfl (by decide) rfl rfl dX11_allow_50 ?_
            obtain rfl := Option.some.inj h
            exact gm_iret C0 hH dX11_allow_53
      · replace h := gm_neg hc6 h
        exact tX11_allow_b25 C0  h hH (lv_sub hl [0] rfl)

/-! X11_misheard -/
abbrev wX11_misheard (cI : ClassId) (q q_refused q_tongue q_fresh q_kept q_isKept q_text q_said q_talk : Nat) (m_thrown : Int32) (m_size : Int32) (m_at : Int32) (m_start : Int32) (m_token : Int32) (m_value : Int64) (m_faultAt : Int32) (m_allowed : Int32) (m_firstPair : Int32) (m_secondPair : Int32) (m_above : Int64) (m_below : Int64) (m_refused : Nat → Int32) (m_tongue : Nat → Int32) : va_W := [(q, .inr (11, [.int m_thrown, .ref q_refused, .ref q_tongue, .ref q_fresh, .ref q_kept, .ref q_isKept, .ref q_text, .int m_size, .int m_at, .int m_start, .int m_token, .long m_value, .int m_faultAt, .ref q_said, .ref q_talk, .int m_allowed, .int m_firstPair, .int m_secondPair, .long m_above, .long m_below])), (q_refused, .inl (cI, 3, .inl m_refused)), (q_tongue, .inl (cI, 73, .inl m_tongue))]
abbrev rX11_misheard : Room := { frames := 7, cells := 0, slots := 0, locals := 157 }
def fX11_misheard_b46 (N : Nat)  (m_thrown : Int32) (m_above : Int64) (m_below : Int64) (m_refused : Nat → Int32) : Option (Int32 × Int32 × Int64 × Int64 × (Nat → Int32)) := gm_bind (fX11_bad N m_refused) (fun o3 => some (o3.1, m_thrown, m_above, m_below, o3.2))
def fX11_misheard_b148 (N : Nat)  (m_thrown : Int32) (m_above : Int64) (m_below : Int64) (m_refused : Nat → Int32) (x6 : Int32) (k0 : Int32) : Option (Int32 × Int32 × Int64 × Int64 × (Nat → Int32)) := gm_nz k0 (gm_let ((Int32.toInt64 (x6 / k0)) : Int64) (fun (v27 : Int64) => gm_nz k0 (gm_let ((Int32.toInt64 (10 / k0)) : Int64) (fun (v29 : Int64) => some (1, m_thrown, v27, v29, m_refused)))))
def fX11_misheard_b109 (N : Nat)  (m_thrown : Int32) (m_above : Int64) (m_below : Int64) (m_refused : Nat → Int32) (k0 : Int32) (k1 : Int32) : Option (Int32 × Int32 × Int64 × Int64 × (Nat → Int32)) := gm_let ((k0 + k1) : Int32) (fun (v19 : Int32) => gm_nz 10 ((if (v19 - v19 / 10 * 10) = 0 then (fX11_misheard_b148 N  m_thrown m_above m_below m_refused v19 10) else gm_nz 5 ((if (v19 - v19 / 5 * 5) = 0 then (fX11_misheard_b148 N  m_thrown m_above m_below m_refused v19 5) else gm_nz 2 ((if (v19 - v19 / 2 * 2) = 0 then (fX11_misheard_b148 N  m_thrown m_above m_below m_refused v19 2) else (fX11_misheard_b148 N  m_thrown m_above m_below m_refused v19 1))))))))
def fX11_misheard_b85 (N : Nat)  (m_thrown : Int32) (m_above : Int64) (m_below : Int64) (m_refused : Nat → Int32) (m_tongue : Nat → Int32) (x1 : Int32) (x3 : Int32) (x4 : Int32) (x5 : Int32) (k0 : Int32) : Option (Int32 × Int32 × Int64 × Int64 × (Nat → Int32)) := gm_bind (fX11_canSay N m_tongue x1 x5) (fun o16 => gm_bind (fX11_has N o16 x3) (fun o17 => (if o17 = 0 then (fX11_misheard_b109 N  m_thrown m_above m_below m_refused k0 0) else (fX11_misheard_b109 N  m_thrown m_above m_below m_refused k0 x4))))
def fX11_misheard (N : Nat) (m_thrown : Int32) (m_above : Int64) (m_below : Int64) (m_refused : Nat → Int32) (m_tongue : Nat → Int32) (x1 : Int32) (x2 : Int32) (x3 : Int32) (x4 : Int32) : Option (Int32 × Int32 × Int64 × Int64 × (Nat → Int32)) := gm_bind (fX11_noPerson N m_tongue x1) (fun o1 => (if o1 = 0 then gm_bind (fX11_noWord N m_tongue x2) (fun o4 => (if o4 = 0 then gm_bind (fX11_in N ((Int32.toInt64 x3)) 0 7) (fun o6 => (if o6 = 0 then (fX11_misheard_b46 N  0 m_above m_below m_refused) else gm_bind (fX11_in N ((Int32.toInt64 x4)) 0 10) (fun o8 => (if o8 = 0 then (fX11_misheard_b46 N  0 m_above m_below m_refused) else gm_chk 0 73 (gm_nz (m_tongue (Int32.toNatClampNeg 0)) (gm_let (((x2 + 1) - (x2 + 1) / (m_tongue (Int32.toNatClampNeg 0)) * (m_tongue (Int32.toNatClampNeg 0))) : Int32) (fun (v12 : Int32) => gm_bind (fX11_canSay N m_tongue x1 x2) (fun o13 => gm_bind (fX11_has N o13 x3) (fun o14 => (if o14 = 0 then (fX11_misheard_b85 N  0 m_above m_below m_refused m_tongue x1 x3 x4 v12 0) else (fX11_misheard_b85 N  0 m_above m_below m_refused m_tongue x1 x3 x4 v12 ((10 - x4))))))))))))) else (fX11_misheard_b46 N  0 m_above m_below m_refused))) else (fX11_misheard_b46 N  0 m_above m_below m_refused)))
set_option maxRecDepth 20000 in
theorem inX11_misheard_X11 : ∀ w ∈ u_ws RX11 TX11 20, w ∈ wsX11_misheard := fun w h => by
  obtain ⟨k, hk, rfl⟩ := List.mem_map.mp h
  have hk2 := List.mem_range.mp hk
  exact List.mem_of_getElem? (i := 79 + k) (by rcases (show k = 0 ∨ k = 1 ∨ k = 2 ∨ k = 3 ∨ k = 4 ∨ k = 5 ∨ k = 6 ∨ k = 7 ∨ k = 8 ∨ k = 9 ∨ k = 10 ∨ k = 11 ∨ k = 12 ∨ k = 13 ∨ k = 14 ∨ k = 15 ∨ k = 16 ∨ k = 17 ∨ k = 18 ∨ k = 19 by omega) with rfl | rfl | rfl | rfl | rfl | rfl | rfl | rfl | rfl | rfl | rfl | rfl | rfl | rfl | rfl | rfl | rfl | rfl | rfl | rfl <;> rfl)
set_option maxRecDepth 100000 in
set_option maxHeartbeats 4000000 in
theorem tX11_misheard_b46 {p : Program} {l : Launch} {e : Env} {s : State} {m : MethodId} {args : Array Value} {below : List Frame} {meth : Method} {c : Code} {A : Nat → Prop} {dC : Nat → ClassId} {dI : Nat → Nat → Nat} {cI : ClassId} {q q_refused q_tongue q_fresh q_kept q_isKept q_text q_said q_talk : Nat} {m_thrown : Int32} {m_size : Int32} {m_at : Int32} {m_start : Int32} {m_token : Int32} {m_value : Int64} {m_faultAt : Int32} {m_allowed : Int32} {m_firstPair : Int32} {m_secondPair : Int32} {m_above : Int64} {m_below : Int64} {m_refused : Nat → Int32} {m_tongue : Nat → Int32} (C0 : gm_C p s m args meth c (dC, dI) [(cI, .int)] A gm_T RX11 cX11_misheard 8 (some .int) wsX11_misheard) {N : Nat} {out : Int32 × Int32 × Int64 × Int64 × (Nat → Int32)}    {H : Heap} {locs : List Loc} {ls : Array Slot} (h : fX11_misheard_b46 N  m_thrown m_above m_below m_refused = some out) (hH : gm_H (dC, dI) A s (wX11_misheard cI q q_refused q_tongue q_fresh q_kept q_isKept q_text q_said q_talk m_thrown m_size m_at m_start m_token m_value m_faultAt m_allowed m_firstPair m_secondPair m_above m_below m_refused m_tongue) H locs) (hl : lv_has ls 8 [(0, .ref q)]) : W p l e rX11_misheard s m args below meth c H locs 0 0 (MQ below (gm_Q (dC, dI) [(cI, .int)] A (some (.int out.1)) (wX11_misheard cI q q_refused q_tongue q_fresh q_kept q_isKept q_text q_said q_talk out.2.1 m_size m_at m_start m_token m_value m_faultAt m_allowed m_firstPair m_secondPair out.2.2.1 out.2.2.2.1 out.2.2.2.2 m_tongue)) args s 0 0 A) (F0 m 46 ls []) := by
  obtain ⟨hx, hb, hml, hr, hown, hts, hA, hK, hX, hlocks⟩ := id C0
  unfold fX11_misheard_b46 at h
  refine lv_aload_n hx hb dX11_misheard_46 rfl (lv_at hl 0 rfl) ?_
  obtain ⟨o3, ho3, h⟩ := gm_bind_e h
  refine gm_callV (As := []) (rest := []) (n := 0) (ci := 11) (q0 := 0) C0 hH (mX11_bad l dC dI cI q q_refused q_tongue q_fresh q_kept q_isKept q_text q_said q_talk m_thrown m_size m_at m_start m_token m_value m_faultAt m_allowed m_firstPair m_secondPair m_above m_below m_refused    ho3) gX11_misheard_X11_bad rfl (by decide +kernel) ⟨rfl, rfl, Nat.le_of_ble_eq_true rfl, Nat.le_of_ble_eq_true rfl⟩ gm_T_ok (fun _ => trivial) [0, 1] rfl rfl rfl [0] rfl rfl rfl rfl hl.1 rfl (Nat.le_of_ble_eq_true rfl) dX11_misheard_47 ⟨Nat.zero_le _, Nat.zero_le _⟩ (fun H locs hH => ?_)
  have hH : gm_H (dC, dI) A s (wX11_misheard cI q q_refused q_tongue q_fresh q_kept q_isKept q_text q_said q_talk m_thrown m_size m_at m_start m_token m_value m_faultAt m_allowed m_firstPair m_secondPair m_above m_below o3.2 m_tongue) H locs := hH
  obtain rfl := Option.some.inj h
  exact gm_iret C0 hH dX11_misheard_50
set_option maxRecDepth 100000 in
set_option maxHeartbeats 4000000 in
theorem tX11_misheard_b148 {p : Program} {l : Launch} {e : Env} {s : State} {m : MethodId} {args : Array Value} {below : List Frame} {meth : Method} {c : Code} {A : Nat → Prop} {dC : Nat → ClassId} {dI : Nat → Nat → Nat} {cI : ClassId} {q q_refused q_tongue q_fresh q_kept q_isKept q_text q_said q_talk : Nat} {m_thrown : Int32} {m_size : Int32} {m_at : Int32} {m_start : Int32} {m_token : Int32} {m_value : Int64} {m_faultAt : Int32} {m_allowed : Int32} {m_firstPair : Int32} {m_secondPair : Int32} {m_above : Int64} {m_below : Int64} {m_refused : Nat → Int32} {m_tongue : Nat → Int32} {x6 : Int32} {k0 : Int32} (C0 : gm_C p s m args meth c (dC, dI) [(cI, .int)] A gm_T RX11 cX11_misheard 8 (some .int) wsX11_misheard) {N : Nat} {out : Int32 × Int32 × Int64 × Int64 × (Nat → Int32)}    {H : Heap} {locs : List Loc} {ls : Array Slot} (h : fX11_misheard_b148 N  m_thrown m_above m_below m_refused x6 k0 = some out) (hH : gm_H (dC, dI) A s (wX11_misheard cI q q_refused q_tongue q_fresh q_kept q_isKept q_text q_said q_talk m_thrown m_size m_at m_start m_token m_value m_faultAt m_allowed m_firstPair m_secondPair m_above m_below m_refused m_tongue) H locs) (hl : lv_has ls 8 [(0, .ref q), (6, .int x6)]) : W p l e rX11_misheard s m args below meth c H locs 0 0 (MQ below (gm_Q (dC, dI) [(cI, .int)] A (some (.int out.1)) (wX11_misheard cI q q_refused q_tongue q_fresh q_kept q_isKept q_text q_said q_talk out.2.1 m_size m_at m_start m_token m_value m_faultAt m_allowed m_firstPair m_secondPair out.2.2.1 out.2.2.2.1 out.2.2.2.2 m_tongue)) args s 0 0 A) (F0 m 148 ls [.int k0]) := by
  obtain ⟨hx, hb, hml, hr, hown, hts, hA, hK, hX, hlocks⟩ := id C0
  unfold fX11_misheard_b148 at h
  refine lv_istore (lv' := [(7, .int k0), (0, .ref q), (6, .int x6)]) hx hb dX11_misheard_148 hl (by decide) rfl (fun ls hl => ?_)
  refine lv_aload_n hx hb dX11_misheard_150 rfl (lv_at hl 1 rfl) ?_
  refine lv_iload hx hb dX11_misheard_151 (lv_at hl 2 rfl) ?_
  refine lv_iload hx hb dX11_misheard_153 (lv_at hl 0 rfl) ?_
  obtain ⟨hz26, h⟩ := gm_nz_e h
  refine lv_idiv hx hb dX11_misheard_155 hz26 ?_
  refine lv_i2l hx hb dX11_misheard_156 rfl ?_
  refine lv_topl (fun v27 ev27 => ?_)
  replace h := gm_let_e ev27 h
  refine gm_putf (ci := 11) C0 hH inX11_misheard_X11 tyX11_ok nmX11 0 18 5 rfl rfl (by decide) rfl rfl rfl rfl rfl (Nat.le_of_ble_eq_true rfl) dX11_misheard_157 (fun H locs hH => ?_)
  have hH : gm_H (dC, dI) A s (wX11_misheard cI q q_refused q_tongue q_fresh q_kept q_isKept q_text q_said q_talk m_thrown m_size m_at m_start m_token m_value m_faultAt m_allowed m_firstPair m_secondPair v27 m_below m_refused m_tongue) H locs := hH
  refine lv_aload_n hx hb dX11_misheard_160 rfl (lv_at hl 1 rfl) ?_
  refine lv_bipush (v := 10) hx hb dX11_misheard_161 (by decide) ?_
  refine lv_iload hx hb dX11_misheard_163 (lv_at hl 0 rfl) ?_
  obtain ⟨hz28, h⟩ := gm_nz_e h
  refine lv_idiv hx hb dX11_misheard_165 hz28 ?_
  refine lv_i2l hx hb dX11_misheard_166 rfl ?_
  refine lv_topl (fun v29 ev29 => ?_)
  replace h := gm_let_e ev29 h
  refine gm_putf (ci := 11) C0 hH inX11_misheard_X11 tyX11_ok nmX11 0 19 6 rfl rfl (by decide) rfl rfl rfl rfl rfl (Nat.le_of_ble_eq_true rfl) dX11_misheard_167 (fun H locs hH => ?_)
  have hH : gm_H (dC, dI) A s (wX11_misheard cI q q_refused q_tongue q_fresh q_kept q_isKept q_text q_said q_talk m_thrown m_size m_at m_start m_token m_value m_faultAt m_allowed m_firstPair m_secondPair v27 v29 m_refused m_tongue) H locs := hH
  refine lv_iconst (v := 1) hx hb dX11_misheard_170 (by decide) ?_
  obtain rfl := Option.some.inj h
  exact gm_iret C0 hH dX11_misheard_171
set_option maxRecDepth 100000 in
set_option maxHeartbeats 4000000 in
theorem tX11_misheard_b109 {p : Program} {l : Launch} {e : Env} {s : State} {m : MethodId} {args : Array Value} {below : List Frame} {meth : Method} {c : Code} {A : Nat → Prop} {dC : Nat → ClassId} {dI : Nat → Nat → Nat} {cI : ClassId} {q q_refused q_tongue q_fresh q_kept q_isKept q_text q_said q_talk : Nat} {m_thrown : Int32} {m_size : Int32} {m_at : Int32} {m_start : Int32} {m_token : Int32} {m_value : Int64} {m_faultAt : Int32} {m_allowed : Int32} {m_firstPair : Int32} {m_secondPair : Int32} {m_above : Int64} {m_below : Int64} {m_refused : Nat → Int32} {m_tongue : Nat → Int32} {k0 : Int32} {k1 : Int32} (C0 : gm_C p s m args meth c (dC, dI) [(cI, .int)] A gm_T RX11 cX11_misheard 8 (some .int) wsX11_misheard) {N : Nat} {out : Int32 × Int32 × Int64 × Int64 × (Nat → Int32)}    {H : Heap} {locs : List Loc} {ls : Array Slot} (h : fX11_misheard_b109 N  m_thrown m_above m_below m_refused k0 k1 = some out) (hH : gm_H (dC, dI) A s (wX11_misheard cI q q_refused q_tongue q_fresh q_kept q_isKept q_text q_said q_talk m_thrown m_size m_at m_start m_token m_value m_faultAt m_allowed m_firstPair m_secondPair m_above m_below m_refused m_tongue) H locs) (hl : lv_has ls 8 [(0, .ref q)]) : W p l e rX11_misheard s m args below meth c H locs 0 0 (MQ below (gm_Q (dC, dI) [(cI, .int)] A (some (.int out.1)) (wX11_misheard cI q q_refused q_tongue q_fresh q_kept q_isKept q_text q_said q_talk out.2.1 m_size m_at m_start m_token m_value m_faultAt m_allowed m_firstPair m_secondPair out.2.2.1 out.2.2.2.1 out.2.2.2.2 m_tongue)) args s 0 0 A) (F0 m 109 ls [.int k1, .int k0]) := by
  obtain ⟨hx, hb, hml, hr, hown, hts, hA, hK, hX, hlocks⟩ := id C0
  unfold fX11_misheard_b109 at h
  refine lv_iadd hx hb dX11_misheard_109 ?_
  refine lv_topi (fun v19 ev19 => ?_)
  replace h := gm_let_e ev19 h
  refine lv_istore (lv' := [(6, .int v19), (0, .ref q)]) hx hb dX11_misheard_110 hl (by decide) rfl (fun ls hl => ?_)
  refine lv_iload hx hb dX11_misheard_112 (lv_at hl 0 rfl) ?_
  refine lv_bipush (v := 10) hx hb dX11_misheard_114 (by decide) ?_
  obtain ⟨hz20, h⟩ := gm_nz_e h
  refine lv_irem hx hb dX11_misheard_116 hz20 ?_
  refine lv_if_ne (tgt := 125) hx hb dX11_misheard_117 (by decide) (fun hc21 => ?_) (fun hc21 => ?_)
  · replace h := gm_neg hc21 h
    refine lv_iload hx hb dX11_misheard_125 (lv_at hl 0 rfl) ?_
    refine lv_iconst (v := 5) hx hb dX11_misheard_127 (by decide) ?_
    obtain ⟨hz22, h⟩ := gm_nz_e h
    refine lv_irem hx hb dX11_misheard_128 hz22 ?_
    refine lv_if_ne (tgt := 136) hx hb dX11_misheard_129 (by decide) (fun hc23 => ?_) (fun hc23 => ?_)
    · replace h := gm_neg hc23 h
      refine lv_iload hx hb dX11_misheard_136 (lv_at hl 0 rfl) ?_
      refine lv_iconst (v := 2) hx hb dX11_misheard_138 (by decide) ?_
      obtain ⟨hz24, h⟩ := gm_nz_e h
      refine lv_irem hx hb dX11_misheard_139 hz24 ?_
      refine lv_if_ne (tgt := 147) hx hb dX11_misheard_140 (by decide) (fun hc25 => ?_) (fun hc25 => ?_)
      · replace h := gm_neg hc25 h
        refine lv_iconst (v := 1) hx hb dX11_misheard_147 (by decide) ?_
        exact tX11_misheard_b148 C0  h hH (lv_sub hl [1, 0] rfl)
      · replace h := gm_pos hc25 h
        refine lv_iconst (v := 2) hx hb dX11_misheard_143 (by decide) ?_
        refine lv_goto (tgt := 148) hx hb dX11_misheard_144 (by decide) ?_
        exact tX11_misheard_b148 C0  h hH (lv_sub hl [1, 0] rfl)
    · replace h := gm_pos hc23 h
      refine lv_iconst (v := 5) hx hb dX11_misheard_132 (by decide) ?_
      refine lv_goto (tgt := 148) hx hb dX11_misheard_133 (by decide) ?_
      exact tX11_misheard_b148 C0  h hH (lv_sub hl [1, 0] rfl)
  · replace h := gm_pos hc21 h
    refine lv_bipush (v := 10) hx hb dX11_misheard_120 (by decide) ?_
    refine lv_goto (tgt := 148) hx hb dX11_misheard_122 (by decide) ?_
    exact tX11_misheard_b148 C0  h hH (lv_sub hl [1, 0] rfl)
set_option maxRecDepth 100000 in
set_option maxHeartbeats 4000000 in
theorem tX11_misheard_b85 {p : Program} {l : Launch} {e : Env} {s : State} {m : MethodId} {args : Array Value} {below : List Frame} {meth : Method} {c : Code} {A : Nat → Prop} {dC : Nat → ClassId} {dI : Nat → Nat → Nat} {cI : ClassId} {q q_refused q_tongue q_fresh q_kept q_isKept q_text q_said q_talk : Nat} {m_thrown : Int32} {m_size : Int32} {m_at : Int32} {m_start : Int32} {m_token : Int32} {m_value : Int64} {m_faultAt : Int32} {m_allowed : Int32} {m_firstPair : Int32} {m_secondPair : Int32} {m_above : Int64} {m_below : Int64} {m_refused : Nat → Int32} {m_tongue : Nat → Int32} {x1 : Int32} {x3 : Int32} {x4 : Int32} {x5 : Int32} {k0 : Int32} (C0 : gm_C p s m args meth c (dC, dI) [(cI, .int)] A gm_T RX11 cX11_misheard 8 (some .int) wsX11_misheard) {N : Nat} {out : Int32 × Int32 × Int64 × Int64 × (Nat → Int32)}    {H : Heap} {locs : List Loc} {ls : Array Slot} (h : fX11_misheard_b85 N  m_thrown m_above m_below m_refused m_tongue x1 x3 x4 x5 k0 = some out) (hH : gm_H (dC, dI) A s (wX11_misheard cI q q_refused q_tongue q_fresh q_kept q_isKept q_text q_said q_talk m_thrown m_size m_at m_start m_token m_value m_faultAt m_allowed m_firstPair m_secondPair m_above m_below m_refused m_tongue) H locs) (hl : lv_has ls 8 [(0, .ref q), (1, .int x1), (3, .int x3), (4, .int x4), (5, .int x5)]) : W p l e rX11_misheard s m args below meth c H locs 0 0 (MQ below (gm_Q (dC, dI) [(cI, .int)] A (some (.int out.1)) (wX11_misheard cI q q_refused q_tongue q_fresh q_kept q_isKept q_text q_said q_talk out.2.1 m_size m_at m_start m_token m_value m_faultAt m_allowed m_firstPair m_secondPair out.2.2.1 out.2.2.2.1 out.2.2.2.2 m_tongue)) args s 0 0 A) (F0 m 85 ls [.int k0]) := by
  obtain ⟨hx, hb, hml, hr, hown, hts, hA, hK, hX, hlocks⟩ := id C0
  unfold fX11_misheard_b85 at h
  refine lv_istore (lv' := [(6, .int k0), (0, .ref q), (1, .int x1), (3, .int x3), (4, .int x4), (5, .int x5)]) hx hb dX11_misheard_85 hl (by decide) rfl (fun ls hl => ?_)
  refine lv_iload hx hb dX11_misheard_87 (lv_at hl 0 rfl) ?_
  refine lv_aload_n hx hb dX11_misheard_89 rfl (lv_at hl 1 rfl) ?_
  refine lv_iload_n hx hb dX11_misheard_90 rfl (lv_at hl 2 rfl) ?_
  refine lv_iload hx hb dX11_misheard_91 (lv_at hl 5 rfl) ?_
  obtain ⟨o16, ho16, h⟩ := gm_bind_e h
  refine gm_callV (As := [.int x1, .int x5]) (rest := [.int k0]) (n := 2) (ci := 11) (q0 := 0) C0 hH (mX11_canSay l dC dI cI q q_tongue q_refused q_fresh q_kept q_isKept q_text q_said q_talk m_thrown m_size m_at m_start m_token m_value m_faultAt m_allowed m_firstPair m_secondPair m_above m_below m_tongue x1 x5   ho16) gX11_misheard_X11_canSay rfl (by decide +kernel) ⟨rfl, rfl, Nat.le_of_ble_eq_true rfl, Nat.le_of_ble_eq_true rfl⟩ gm_T_ok (fun _ => trivial) [0, 2] rfl rfl rfl [0] rfl rfl rfl rfl hl.1 rfl (Nat.le_of_ble_eq_true rfl) dX11_misheard_93 ⟨Nat.zero_le _, Nat.zero_le _⟩ (fun H locs hH => ?_)
  have hH : gm_H (dC, dI) A s (wX11_misheard cI q q_refused q_tongue q_fresh q_kept q_isKept q_text q_said q_talk m_thrown m_size m_at m_start m_token m_value m_faultAt m_allowed m_firstPair m_secondPair m_above m_below m_refused m_tongue) H locs := hH
  refine lv_iload_n hx hb dX11_misheard_96 rfl (lv_at hl 3 rfl) ?_
  obtain ⟨o17, ho17, h⟩ := gm_bind_e h
  refine gm_callS (As := [.int o16, .int x3]) (rest := [.int k0]) (n := 2) C0 hH (mX11_has l dC dI    o16 x3   ho17) gX11_misheard_X11_has rfl (by decide +kernel) ⟨rfl, rfl, Nat.le_of_ble_eq_true rfl, Nat.le_of_ble_eq_true rfl⟩ gm_T_ok (fun _ => trivial) [] rfl rfl rfl [] rfl rfl hl.1 rfl (Nat.le_of_ble_eq_true rfl) dX11_misheard_97 ⟨Nat.zero_le _, Nat.zero_le _⟩ (fun H locs hH => ?_)
  have hH : gm_H (dC, dI) A s (wX11_misheard cI q q_refused q_tongue q_fresh q_kept q_isKept q_text q_said q_talk m_thrown m_size m_at m_start m_token m_value m_faultAt m_allowed m_firstPair m_secondPair m_above m_below m_refused m_tongue) H locs := hH
  refine lv_if_eq (tgt := 108) hx hb dX11_misheard_100 (by decide) (fun hc18 => ?_) (fun hc18 => ?_)
  · replace h := gm_pos hc18 h
    refine lv_iconst (v := 0) hx hb dX11_misheard_108 (by decide) ?_
    exact tX11_misheard_b109 C0  h hH (lv_sub hl [1] rfl)
  · replace h := gm_neg hc18 h
    refine lv_iload hx hb dX11_misheard_103 (lv_at hl 4 rfl) ?_
    refine lv_goto (tgt := 109) hx hb dX11_misheard_105 (by decide) ?_
    exact tX11_misheard_b109 C0  h hH (lv_sub hl [1] rfl)
set_option maxRecDepth 100000 in
set_option maxHeartbeats 4000000 in
theorem mX11_misheard (l : Launch) (dC : Nat → ClassId) (dI : Nat → Nat → Nat) (cI : ClassId) (q q_refused q_tongue q_fresh q_kept q_isKept q_text q_said q_talk : Nat) (m_thrown : Int32) (m_size : Int32) (m_at : Int32) (m_start : Int32) (m_token : Int32) (m_value : Int64) (m_faultAt : Int32) (m_allowed : Int32) (m_firstPair : Int32) (m_secondPair : Int32) (m_above : Int64) (m_below : Int64) (m_refused : Nat → Int32) (m_tongue : Nat → Int32) (x1 : Int32) (x2 : Int32) (x3 : Int32) (x4 : Int32)  {N : Nat} {out : Int32 × Int32 × Int64 × Int64 × (Nat → Int32)} (h : fX11_misheard N m_thrown m_above m_below m_refused m_tongue x1 x2 x3 x4 = some out) : gm_Met l yX11_misheard wsX11_misheard rX11_misheard (dC, dI) [(cI, .int)] gm_T [.ref q, .int x1, .int x2, .int x3, .int x4] (wX11_misheard cI q q_refused q_tongue q_fresh q_kept q_isKept q_text q_said q_talk m_thrown m_size m_at m_start m_token m_value m_faultAt m_allowed m_firstPair m_secondPair m_above m_below m_refused m_tongue) (some (.int out.1)) (wX11_misheard cI q q_refused q_tongue q_fresh q_kept q_isKept q_text q_said q_talk out.2.1 m_size m_at m_start m_token m_value m_faultAt m_allowed m_firstPair m_secondPair out.2.2.1 out.2.2.2.1 out.2.2.2.2 m_tongue) := by
  refine gm_ofW (cc := cX11_misheard) (maxL := 8) (ret := (some .int)) (by decide +kernel) rfl (Nat.le_of_ble_eq_true rfl) ?_
  intro p e s m below meth c A C0 hH ls hl
  generalize ([.ref q, .int x1, .int x2, .int x3, .int x4] : List Value).toArray = args at C0 ⊢
  have hl : lv_has ls 8 [(0, .ref q), (1, .int x1), (2, .int x2), (3, .int x3), (4, .int x4)] := hl
  generalize s.heap = H at hH ⊢
  generalize ([] : List Loc) = locs at hH ⊢
  obtain ⟨hx, hb, hml, hr, hown, hts, hA, hK, hX, hlocks⟩ := id C0
  unfold fX11_misheard at h
  refine lv_aload_n hx hb dX11_misheard_0 rfl (lv_at hl 0 rfl) ?_
  refine lv_iconst (v := 0) hx hb dX11_misheard_1 (by decide) ?_
  refine gm_putf (ci := 11) C0 hH inX11_misheard_X11 tyX11_ok nmX11 0 0 1 rfl rfl (by decide) rfl rfl rfl rfl rfl (Nat.le_of_ble_eq_true rfl) dX11_misheard_2 (fun H locs hH => ?_)
  have hH : gm_H (dC, dI) A s (wX11_misheard cI q q_refused q_tongue q_fresh q_kept q_isKept q_text q_said q_talk 0 m_size m_at m_start m_token m_value m_faultAt m_allowed m_firstPair m_secondPair m_above m_below m_refused m_tongue) H locs := hH
  refine lv_aload_n hx hb dX11_misheard_5 rfl (lv_at hl 0 rfl) ?_
  refine lv_iload_n hx hb dX11_misheard_6 rfl (lv_at hl 1 rfl) ?_
  obtain ⟨o1, ho1, h⟩ := gm_bind_e h
  refine gm_callV (As := [.int x1]) (rest := []) (n := 1) (ci := 11) (q0 := 0) C0 hH (mX11_noPerson l dC dI cI q q_tongue q_refused q_fresh q_kept q_isKept q_text q_said q_talk 0 m_size m_at m_start m_token m_value m_faultAt m_allowed m_firstPair m_secondPair m_above m_below m_tongue x1   ho1) gX11_misheard_X11_noPerson rfl (by decide +kernel) ⟨rfl, rfl, Nat.le_of_ble_eq_true rfl, Nat.le_of_ble_eq_true rfl⟩ gm_T_ok (fun _ => trivial) [0, 2] rfl rfl rfl [0] rfl rfl rfl rfl hl.1 rfl (Nat.le_of_ble_eq_true rfl) dX11_misheard_7 ⟨Nat.zero_le _, Nat.zero_le _⟩ (fun H locs hH => ?_)
  have hH : gm_H (dC, dI) A s (wX11_misheard cI q q_refused q_tongue q_fresh q_kept q_isKept q_text q_said q_talk 0 m_size m_at m_start m_token m_value m_faultAt m_allowed m_firstPair m_secondPair m_above m_below m_refused m_tongue) H locs := hH
  refine lv_if_ne (tgt := 46) hx hb dX11_misheard_10 (by decide) (fun hc2 => ?_) (fun hc2 => ?_)
  · replace h := gm_neg hc2 h
    exact tX11_misheard_b46 C0  h hH (lv_sub hl [0] rfl)
  · replace h := gm_pos hc2 h
    refine lv_aload_n hx hb dX11_misheard_13 rfl (lv_at hl 0 rfl) ?_
    refine lv_iload_n hx hb dX11_misheard_14 rfl (lv_at hl 2 rfl) ?_
    obtain ⟨o4, ho4, h⟩ := gm_bind_e h
    refine gm_callV (As := [.int x2]) (rest := []) (n := 1) (ci := 11) (q0 := 0) C0 hH (mX11_noWord l dC dI cI q q_tongue q_refused q_fresh q_kept q_isKept q_text q_said q_talk 0 m_size m_at m_start m_token m_value m_faultAt m_allowed m_firstPair m_secondPair m_above m_below m_tongue x2   ho4) gX11_misheard_X11_noWord rfl (by decide +kernel) ⟨rfl, rfl, Nat.le_of_ble_eq_true rfl, Nat.le_of_ble_eq_true rfl⟩ gm_T_ok (fun _ => trivial) [0, 2] rfl rfl rfl [0] rfl rfl rfl rfl hl.1 rfl (Nat.le_of_ble_eq_true rfl) dX11_misheard_15 ⟨Nat.zero_le _, Nat.zero_le _⟩ (fun H locs hH => ?_)
    have hH : gm_H (dC, dI) A s (wX11_misheard cI q q_refused q_tongue q_fresh q_kept q_isKept q_text q_said q_talk 0 m_size m_at m_start m_token m_value m_faultAt m_allowed m_firstPair m_secondPair m_above m_below m_refused m_tongue) H locs := hH
    refine lv_if_ne (tgt := 46) hx hb dX11_misheard_18 (by decide) (fun hc5 => ?_) (fun hc5 => ?_)
    · replace h := gm_neg hc5 h
      exact tX11_misheard_b46 C0  h hH (lv_sub hl [0] rfl)
    · replace h := gm_pos hc5 h
      refine lv_iload_n hx hb dX11_misheard_21 rfl (lv_at hl 3 rfl) ?_
      refine lv_i2l hx hb dX11_misheard_22 rfl ?_
      refine lv_lconst (v := 0) hx hb dX11_misheard_23 (by decide) ?_
      refine lv_ldc2 (own := RX11) (v := 7) hx hb hown (gm_at C0 2 rfl) dX11_misheard_24 ?_
      obtain ⟨o6, ho6, h⟩ := gm_bind_e h
      refine gm_callS (As := [.long (Int32.toInt64 x3), .long 0, .long 7]) (rest := []) (n := 3) C0 hH (mX11_in l dC dI    ((Int32.toInt64 x3)) 0 7   ho6) gX11_misheard_X11_in rfl (by decide +kernel) ⟨rfl, rfl, Nat.le_of_ble_eq_true rfl, Nat.le_of_ble_eq_true rfl⟩ gm_T_ok (fun _ => trivial) [] rfl rfl rfl [] rfl rfl hl.1 rfl (Nat.le_of_ble_eq_true rfl) dX11_misheard_27 ⟨Nat.zero_le _, Nat.zero_le _⟩ (fun H locs hH => ?_)
      have hH : gm_H (dC, dI) A s (wX11_misheard cI q q_refused q_tongue q_fresh q_kept q_isKept q_text q_said q_talk 0 m_size m_at m_start m_token m_value m_faultAt m_allowed m_firstPair m_secondPair m_above m_below m_refused m_tongue) H locs := hH
      refine lv_if_eq (tgt := 46) hx hb dX11_misheard_30 (by decide) (fun hc7 => ?_) (fun hc7 => ?_)
      · replace h := gm_pos hc7 h
        exact tX11_misheard_b46 C0  h hH (lv_sub hl [0] rfl)
      · replace h := gm_neg hc7 h
        refine lv_iload hx hb dX11_misheard_33 (lv_at hl 4 rfl) ?_
        refine lv_i2l hx hb dX11_misheard_35 rfl ?_
        refine lv_lconst (v := 0) hx hb dX11_misheard_36 (by decide) ?_
        refine lv_ldc2 (own := RX11) (v := 10) hx hb hown (gm_at C0 3 rfl) dX11_misheard_37 ?_
        obtain ⟨o8, ho8, h⟩ := gm_bind_e h
        refine gm_callS (As := [.long (Int32.toInt64 x4), .long 0, .long 10]) (rest := []) (n := 3) C0 hH (mX11_in l dC dI    ((Int32.toInt64 x4)) 0 10   ho8) gX11_misheard_X11_in rfl (by decide +kernel) ⟨rfl, rfl, Nat.le_of_ble_eq_true rfl, Nat.le_of_ble_eq_true rfl⟩ gm_T_ok (fun _ => trivial) [] rfl rfl rfl [] rfl rfl hl.1 rfl (Nat.le_of_ble_eq_true rfl) dX11_misheard_40 ⟨Nat.zero_le _, Nat.zero_le _⟩ (fun H locs hH => ?_)
        have hH : gm_H (dC, dI) A s (wX11_misheard cI q q_refused q_tongue q_fresh q_kept q_isKept q_text q_said q_talk 0 m_size m_at m_start m_token m_value m_faultAt m_allowed m_firstPair m_secondPair m_above m_below m_refused m_tongue) H locs := hH
        refine lv_if_ne (tgt := 51) hx hb dX11_misheard_43 (by decide) (fun hc9 => ?_) (fun hc9 => ?_)
        · replace h := gm_neg hc9 h
          refine lv_iload_n hx hb dX11_misheard_51 rfl (lv_at hl 2 rfl) ?_
          refine lv_iconst (v := 1) hx hb dX11_misheard_52 (by decide) ?_
          refine lv_iadd hx hb dX11_misheard_53 ?_
          refine lv_aload_n hx hb dX11_misheard_54 rfl (lv_at hl 0 rfl) ?_
          refine gm_get (ci := 11) C0 hH inX11_misheard_X11 0 2 4 rfl rfl (by decide) rfl rfl dX11_misheard_55 ?_
          refine lv_iconst (v := 0) hx hb dX11_misheard_58 (by decide) ?_
          obtain ⟨hi10, h⟩ := gm_chk_e h
          refine gm_iald C0 hH hi10 2 0 rfl rfl dX11_misheard_59 ?_
          obtain ⟨hz11, h⟩ := gm_nz_e h
          refine lv_irem hx hb dX11_misheard_60 hz11 ?_
          refine lv_topi (fun v12 ev12 => ?_)
          replace h := gm_let_e ev12 h
          refine lv_istore (lv' := [(5, .int v12), (0, .ref q), (1, .int x1), (2, .int x2), (3, .int x3), (4, .int x4)]) hx hb dX11_misheard_61 hl (by decide) rfl (fun ls hl => ?_)
          refine lv_aload_n hx hb dX11_misheard_63 rfl (lv_at hl 1 rfl) ?_
          refine lv_iload_n hx hb dX11_misheard_64 rfl (lv_at hl 2 rfl) ?_
          refine lv_iload_n hx hb dX11_misheard_65 rfl (lv_at hl 3 rfl) ?_
          obtain ⟨o13, ho13, h⟩ := gm_bind_e h
          refine gm_callV (As := [.int x1, .int x2]) (rest := []) (n := 2) (ci := 11) (q0 := 0) C0 hH (mX11_canSay l dC dI cI q q_tongue q_refused q_fresh q_kept q_isKept q_text q_said q_talk 0 m_size m_at m_start m_token m_value m_faultAt m_allowed m_firstPair m_secondPair m_above m_below m_tongue x1 x2   ho13) gX11_misheard_X11_canSay rfl (by decide +kernel) ⟨rfl, rfl, Nat.le_of_ble_eq_true rfl, Nat.le_of_ble_eq_true rfl⟩ gm_T_ok (fun _ => trivial) [0, 2] rfl rfl rfl [0] rfl rfl rfl rfl hl.1 rfl (Nat.le_of_ble_eq_true rfl) dX11_misheard_66 ⟨Nat.zero_le _, Nat.zero_le _⟩ (fun H locs hH => ?_)
          have hH : gm_H (dC, dI) A s (wX11_misheard cI q q_refused q_tongue q_fresh q_kept q_isKept q_text q_said q_talk 0 m_size m_at m_start m_token m_value m_faultAt m_allowed m_firstPair m_secondPair m_above m_below m_refused m_tongue) H locs := hH
          refine lv_iload_n hx hb dX11_misheard_69 rfl (lv_at hl 4 rfl) ?_
          obtain ⟨o14, ho14, h⟩ := gm_bind_e h
          refine gm_callS (As := [.int o13, .int x3]) (rest := []) (n := 2) C0 hH (mX11_has l dC dI    o13 x3   ho14) gX11_misheard_X11_has rfl (by decide +kernel) ⟨rfl, rfl, Nat.le_of_ble_eq_true rfl, Nat.le_of_ble_eq_true rfl⟩ gm_T_ok (fun _ => trivial) [] rfl rfl rfl [] rfl rfl hl.1 rfl (Nat.le_of_ble_eq_true rfl) dX11_misheard_70 ⟨Nat.zero_le _, Nat.zero_le _⟩ (fun H locs hH => ?_)
          have hH : gm_H (dC, dI) A s (wX11_misheard cI q q_refused q_tongue q_fresh q_kept q_isKept q_text q_said q_talk 0 m_size m_at m_start m_token m_value m_faultAt m_allowed m_firstPair m_secondPair m_above m_below m_refused m_tongue) H locs := hH
          refine lv_if_eq (tgt := 84) hx hb dX11_misheard_73 (by decide) (fun hc15 => ?_) (fun hc15 => ?_)
          · replace h := gm_pos hc15 h
            refine lv_iconst (v := 0) hx hb dX11_misheard_84 (by decide) ?_
            exact tX11_misheard_b85 C0  h hH (lv_sub hl [1, 2, 4, 5, 0] rfl)
          · replace h := gm_neg hc15 h
            refine lv_bipush (v := 10) hx hb dX11_misheard_76 (by decide) ?_
            refine lv_iload hx hb dX11_misheard_78 (lv_at hl 5 rfl) ?_
            refine lv_isub hx hb dX11_misheard_80 ?_
            refine lv_goto (tgt := 85) hx hb dX11_misheard_81 (by decide) ?_
            exact tX11_misheard_b85 C0  h hH (lv_sub hl [1, 2, 4, 5, 0] rfl)
        · replace h := gm_pos hc9 h
          exact tX11_misheard_b46 C0  h hH (lv_sub hl [0] rfl)

/-! X11_talks -/
abbrev wX11_talks (cI : ClassId) (q q_refused q_tongue q_fresh q_kept q_isKept q_text q_said q_talk : Nat) (m_thrown : Int32) (m_size : Int32) (m_at : Int32) (m_start : Int32) (m_token : Int32) (m_value : Int64) (m_faultAt : Int32) (m_allowed : Int32) (m_firstPair : Int32) (m_secondPair : Int32) (m_above : Int64) (m_below : Int64) (m_refused : Nat → Int32) (m_tongue : Nat → Int32) : va_W := [(q, .inr (11, [.int m_thrown, .ref q_refused, .ref q_tongue, .ref q_fresh, .ref q_kept, .ref q_isKept, .ref q_text, .int m_size, .int m_at, .int m_start, .int m_token, .long m_value, .int m_faultAt, .ref q_said, .ref q_talk, .int m_allowed, .int m_firstPair, .int m_secondPair, .long m_above, .long m_below])), (q_refused, .inl (cI, 3, .inl m_refused)), (q_tongue, .inl (cI, 73, .inl m_tongue))]
abbrev rX11_talks : Room := { frames := 6, cells := 0, slots := 0, locals := 135 }
def fX11_talks_b29 (N : Nat)  (m_thrown : Int32) (m_refused : Nat → Int32) (m_tongue : Nat → Int32) : Option (Int32 × Int32 × (Nat → Int32) × (Nat → Int32)) := gm_bind (fX11_bad N m_refused) (fun o3 => some (o3.1, m_thrown, o3.2, m_tongue))
def fX11_talks_b267 (N : Nat)  (m_thrown : Int32) (m_refused : Nat → Int32) (m_tongue : Nat → Int32) (x3 : Int32) (x6 : Int32) : Option (Int32 × Int32 × (Nat → Int32) × (Nat → Int32)) := gm_chk 2 73 (some (x6, m_thrown, m_refused, upd m_tongue (Int32.toNatClampNeg 2) x3))
def fX11_talks_b258 (N : Nat) (r71 : (Nat → Int32) → Int64 → Int32 → Int32 → Option (Int32 × Int32 × (Nat → Int32) × (Nat → Int32))) (m_thrown : Int32) (m_refused : Nat → Int32) (m_tongue : Nat → Int32) (x2 : Int32) (x3 : Int32) (x4 : Int64) (x7 : Int32) (k0 : Int32) (k1 : Int32) : Option (Int32 × Int32 × (Nat → Int32) × (Nat → Int32)) := gm_let ((k0 + k1) : Int32) (fun (v31 : Int32) => (r71 m_tongue x4 v31 ((x7 + 1))))
def fX11_talks_b244 (N : Nat) (r71 : (Nat → Int32) → Int64 → Int32 → Int32 → Option (Int32 × Int32 × (Nat → Int32) × (Nat → Int32))) (m_thrown : Int32) (m_refused : Nat → Int32) (m_tongue : Nat → Int32) (x2 : Int32) (x3 : Int32) (x4 : Int64) (x6 : Int32) (x7 : Int32) (x10 : Int32) (k1 : Int32) (k2 : Int32) : Option (Int32 × Int32 × (Nat → Int32) × (Nat → Int32)) := gm_chk k1 73 ((if x10 = (-1) then (fX11_talks_b258 N r71 m_thrown m_refused (upd m_tongue (Int32.toNatClampNeg k1) k2) x2 x3 x4 x7 x6 0) else (fX11_talks_b258 N r71 m_thrown m_refused (upd m_tongue (Int32.toNatClampNeg k1) k2) x2 x3 x4 x7 x6 1)))
def fX11_talks_b218 (N : Nat) (r71 : (Nat → Int32) → Int64 → Int32 → Int32 → Option (Int32 × Int32 × (Nat → Int32) × (Nat → Int32))) (m_thrown : Int32) (m_refused : Nat → Int32) (m_tongue : Nat → Int32) (x2 : Int32) (x3 : Int32) (x4 : Int64) (x6 : Int32) (x7 : Int32) (x10 : Int32) : Option (Int32 × Int32 × (Nat → Int32) × (Nat → Int32)) := (if x10 = (-1) then (fX11_talks_b244 N r71 m_thrown m_refused m_tongue x2 x3 x4 x6 x7 x10 2 0) else gm_chk 2 73 ((fX11_talks_b244 N r71 m_thrown m_refused m_tongue x2 x3 x4 x6 x7 x10 2 (((m_tongue (Int32.toNatClampNeg 2)) ||| ((1 : Int32) <<< (x10 &&& 31)))))))
def fX11_talks_b210 (N : Nat) (r71 : (Nat → Int32) → Int64 → Int32 → Int32 → Option (Int32 × Int32 × (Nat → Int32) × (Nat → Int32))) (r140 : Int32 → Int32 → Option (Int32 × Int32 × (Nat → Int32) × (Nat → Int32))) (m_thrown : Int32) (m_refused : Nat → Int32) (m_tongue : Nat → Int32) (x2 : Int32) (x3 : Int32) (x4 : Int64) (x6 : Int32) (x7 : Int32) (x8 : Int32) (x9 : Int32) (x11 : Int32) (k0 : Int32) : Option (Int32 × Int32 × (Nat → Int32) × (Nat → Int32)) := (r140 k0 ((x11 + (-1))))
def fX11_talks_b208 (N : Nat) (r71 : (Nat → Int32) → Int64 → Int32 → Int32 → Option (Int32 × Int32 × (Nat → Int32) × (Nat → Int32))) (r140 : Int32 → Int32 → Option (Int32 × Int32 × (Nat → Int32) × (Nat → Int32))) (m_thrown : Int32) (m_refused : Nat → Int32) (m_tongue : Nat → Int32) (x2 : Int32) (x3 : Int32) (x4 : Int64) (x6 : Int32) (x7 : Int32) (x8 : Int32) (x9 : Int32) (x10 : Int32) (x11 : Int32) : Option (Int32 × Int32 × (Nat → Int32) × (Nat → Int32)) := (fX11_talks_b210 N r71 r140 m_thrown m_refused m_tongue x2 x3 x4 x6 x7 x8 x9 x11 x10)
def fX11_talks_b203 (N : Nat) (r71 : (Nat → Int32) → Int64 → Int32 → Int32 → Option (Int32 × Int32 × (Nat → Int32) × (Nat → Int32))) (r140 : Int32 → Int32 → Option (Int32 × Int32 × (Nat → Int32) × (Nat → Int32))) (m_thrown : Int32) (m_refused : Nat → Int32) (m_tongue : Nat → Int32) (x2 : Int32) (x3 : Int32) (x4 : Int64) (x6 : Int32) (x7 : Int32) (x8 : Int32) (x9 : Int32) (x11 : Int32) : Option (Int32 × Int32 × (Nat → Int32) × (Nat → Int32)) := (fX11_talks_b210 N r71 r140 m_thrown m_refused m_tongue x2 x3 x4 x6 x7 x8 x9 x11 x11)
def fX11_talks_b171 (N : Nat) (r71 : (Nat → Int32) → Int64 → Int32 → Int32 → Option (Int32 × Int32 × (Nat → Int32) × (Nat → Int32))) (r140 : Int32 → Int32 → Option (Int32 × Int32 × (Nat → Int32) × (Nat → Int32))) (m_thrown : Int32) (m_refused : Nat → Int32) (m_tongue : Nat → Int32) (x2 : Int32) (x3 : Int32) (x4 : Int64) (x6 : Int32) (x7 : Int32) (x8 : Int32) (x9 : Int32) (x10 : Int32) (x11 : Int32) (k0 : Int32) : Option (Int32 × Int32 × (Nat → Int32) × (Nat → Int32)) := gm_bind (fX11_has N x9 x11) (fun o33 => (if o33 = 0 then (fX11_talks_b208 N r71 r140 m_thrown m_refused m_tongue x2 x3 x4 x6 x7 x8 x9 x10 x11) else gm_bind (fX11_meaning N m_tongue x11) (fun o35 => gm_bind (fX11_want N m_tongue x8) (fun o36 => (if o35 = o36 then (fX11_talks_b203 N r71 r140 m_thrown m_refused m_tongue x2 x3 x4 x6 x7 x8 x9 x11) else (if k0 = 0 then (fX11_talks_b203 N r71 r140 m_thrown m_refused m_tongue x2 x3 x4 x6 x7 x8 x9 x11) else (fX11_talks_b208 N r71 r140 m_thrown m_refused m_tongue x2 x3 x4 x6 x7 x8 x9 x10 x11)))))))
def fX11_talks_b170 (N : Nat) (r71 : (Nat → Int32) → Int64 → Int32 → Int32 → Option (Int32 × Int32 × (Nat → Int32) × (Nat → Int32))) (r140 : Int32 → Int32 → Option (Int32 × Int32 × (Nat → Int32) × (Nat → Int32))) (m_thrown : Int32) (m_refused : Nat → Int32) (m_tongue : Nat → Int32) (x2 : Int32) (x3 : Int32) (x4 : Int64) (x6 : Int32) (x7 : Int32) (x8 : Int32) (x9 : Int32) (x10 : Int32) (x11 : Int32) : Option (Int32 × Int32 × (Nat → Int32) × (Nat → Int32)) := (fX11_talks_b171 N r71 r140 m_thrown m_refused m_tongue x2 x3 x4 x6 x7 x8 x9 x10 x11 0)
def fX11_talks_b140_body (N : Nat) (r71 : (Nat → Int32) → Int64 → Int32 → Int32 → Option (Int32 × Int32 × (Nat → Int32) × (Nat → Int32))) (m_thrown : Int32) (m_refused : Nat → Int32) (m_tongue : Nat → Int32) (x2 : Int32) (x3 : Int32) (x4 : Int64) (x6 : Int32) (x7 : Int32) (x8 : Int32) (x9 : Int32) (r140 : Int32 → Int32 → Option (Int32 × Int32 × (Nat → Int32) × (Nat → Int32))) (x10 : Int32) (x11 : Int32) : Option (Int32 × Int32 × (Nat → Int32) × (Nat → Int32)) := (if x11 < 0 then (fX11_talks_b218 N r71 m_thrown m_refused m_tongue x2 x3 x4 x6 x7 x10) else (if x10 = (-1) then (fX11_talks_b170 N r71 r140 m_thrown m_refused m_tongue x2 x3 x4 x6 x7 x8 x9 x10 x11) else gm_bind (fX11_meaning N m_tongue x10) (fun o39 => gm_bind (fX11_want N m_tongue x8) (fun o40 => (if o39 = o40 then (fX11_talks_b171 N r71 r140 m_thrown m_refused m_tongue x2 x3 x4 x6 x7 x8 x9 x10 x11 1) else (fX11_talks_b170 N r71 r140 m_thrown m_refused m_tongue x2 x3 x4 x6 x7 x8 x9 x10 x11))))))
def fX11_talks_b140 (N : Nat) (r71 : (Nat → Int32) → Int64 → Int32 → Int32 → Option (Int32 × Int32 × (Nat → Int32) × (Nat → Int32))) (m_thrown : Int32) (m_refused : Nat → Int32) (m_tongue : Nat → Int32) (x2 : Int32) (x3 : Int32) (x4 : Int64) (x6 : Int32) (x7 : Int32) (x8 : Int32) (x9 : Int32) (x10 : Int32) (x11 : Int32) : Option (Int32 × Int32 × (Nat → Int32) × (Nat → Int32)) := gm_fix (fX11_talks_b140_body N r71 m_thrown m_refused m_tongue x2 x3 x4 x6 x7 x8 x9) (fun _ _ => none) N x10 x11
def fX11_talks_b71_body (N : Nat)  (m_thrown : Int32) (m_refused : Nat → Int32) (x2 : Int32) (x3 : Int32) (r71 : (Nat → Int32) → Int64 → Int32 → Int32 → Option (Int32 × Int32 × (Nat → Int32) × (Nat → Int32))) (m_tongue : Nat → Int32) (x4 : Int64) (x6 : Int32) (x7 : Int32) : Option (Int32 × Int32 × (Nat → Int32) × (Nat → Int32)) := (if x2 ≤ x7 then (fX11_talks_b267 N  m_thrown m_refused m_tongue x3 x6) else gm_nzL 2147483648 (gm_let ((((x4 * 1103515245) + 12345) - ((x4 * 1103515245) + 12345) / 2147483648 * 2147483648) : Int64) (fun (v16 : Int64) => gm_chk 1 73 (gm_nz (m_tongue (Int32.toNatClampNeg 1)) (gm_let ((x7 - x7 / (m_tongue (Int32.toNatClampNeg 1)) * (m_tongue (Int32.toNatClampNeg 1))) : Int32) (fun (v19 : Int32) => gm_nzL 65536 (gm_chk 0 73 (gm_nzL (Int32.toInt64 (m_tongue (Int32.toNatClampNeg 0))) (gm_bind (fX11_answersTo N m_tongue v19 ((Int64.toInt32 ((v16 / 65536) - (v16 / 65536) / (Int32.toInt64 (m_tongue (Int32.toNatClampNeg 0))) * (Int32.toInt64 (m_tongue (Int32.toNatClampNeg 0))))))) (fun o23 => gm_chk 0 73 (gm_let (((m_tongue (Int32.toNatClampNeg 0)) - 1) : Int32) (fun (v25 : Int32) => (fX11_talks_b140 N r71 m_thrown m_refused m_tongue x2 x3 v16 x6 x7 v19 o23 ((-1)) v25)))))))))))))
def fX11_talks_b71 (N : Nat)  (m_thrown : Int32) (m_refused : Nat → Int32) (x2 : Int32) (x3 : Int32) (m_tongue : Nat → Int32) (x4 : Int64) (x6 : Int32) (x7 : Int32) : Option (Int32 × Int32 × (Nat → Int32) × (Nat → Int32)) := gm_fix (fX11_talks_b71_body N  m_thrown m_refused x2 x3) (fun _ _ _ _ => none) N m_tongue x4 x6 x7
def fX11_talks (N : Nat) (m_thrown : Int32) (m_refused : Nat → Int32) (m_tongue : Nat → Int32) (x1 : Int32) (x2 : Int32) : Option (Int32 × Int32 × (Nat → Int32) × (Nat → Int32)) := gm_bind (fX11_in N ((Int32.toInt64 x1)) 0 999999) (fun o1 => (if o1 = 0 then (fX11_talks_b29 N  0 m_refused m_tongue) else gm_bind (fX11_in N ((Int32.toInt64 x2)) 0 60) (fun o4 => (if o4 = 0 then (fX11_talks_b29 N  0 m_refused m_tongue) else gm_chk 0 73 ((if (m_tongue (Int32.toNatClampNeg 0)) = 0 then some ((-1), 0, m_refused, m_tongue) else gm_chk 1 73 ((if (m_tongue (Int32.toNatClampNeg 1)) = 0 then some ((-1), 0, m_refused, m_tongue) else gm_chk 2 73 (gm_let ((m_tongue (Int32.toNatClampNeg 2)) : Int32) (fun (v11 : Int32) => gm_let ((Int32.toInt64 x1) : Int64) (fun (v12 : Int64) => (fX11_talks_b71 N  0 m_refused x2 v11 m_tongue v12 0 0))))))))))))
set_option maxRecDepth 20000 in
theorem inX11_talks_X11 : ∀ w ∈ u_ws RX11 TX11 20, w ∈ wsX11_talks := fun w h => by
  obtain ⟨k, hk, rfl⟩ := List.mem_map.mp h
  have hk2 := List.mem_range.mp hk
  exact List.mem_of_getElem? (i := 65 + k) (by rcases (show k = 0 ∨ k = 1 ∨ k = 2 ∨ k = 3 ∨ k = 4 ∨ k = 5 ∨ k = 6 ∨ k = 7 ∨ k = 8 ∨ k = 9 ∨ k = 10 ∨ k = 11 ∨ k = 12 ∨ k = 13 ∨ k = 14 ∨ k = 15 ∨ k = 16 ∨ k = 17 ∨ k = 18 ∨ k = 19 by omega) with rfl | rfl | rfl | rfl | rfl | rfl | rfl | rfl | rfl | rfl | rfl | rfl | rfl | rfl | rfl | rfl | rfl | rfl | rfl | rfl <;> rfl)
set_option maxRecDepth 100000 in
set_option maxHeartbeats 4000000 in
theorem tX11_talks_b29 {p : Program} {l : Launch} {e : Env} {s : State} {m : MethodId} {args : Array Value} {below : List Frame} {meth : Method} {c : Code} {A : Nat → Prop} {dC : Nat → ClassId} {dI : Nat → Nat → Nat} {cI : ClassId} {q q_refused q_tongue q_fresh q_kept q_isKept q_text q_said q_talk : Nat} {m_thrown : Int32} {m_size : Int32} {m_at : Int32} {m_start : Int32} {m_token : Int32} {m_value : Int64} {m_faultAt : Int32} {m_allowed : Int32} {m_firstPair : Int32} {m_secondPair : Int32} {m_above : Int64} {m_below : Int64} {m_refused : Nat → Int32} {m_tongue : Nat → Int32} (C0 : gm_C p s m args meth c (dC, dI) [(cI, .int)] A gm_T RX11 cX11_talks 13 (some .int) wsX11_talks) {N : Nat} {out : Int32 × Int32 × (Nat → Int32) × (Nat → Int32)}    {H : Heap} {locs : List Loc} {ls : Array Slot} (h : fX11_talks_b29 N  m_thrown m_refused m_tongue = some out) (hH : gm_H (dC, dI) A s (wX11_talks cI q q_refused q_tongue q_fresh q_kept q_isKept q_text q_said q_talk m_thrown m_size m_at m_start m_token m_value m_faultAt m_allowed m_firstPair m_secondPair m_above m_below m_refused m_tongue) H locs) (hl : lv_has ls 13 [(0, .ref q)]) : W p l e rX11_talks s m args below meth c H locs 0 0 (MQ below (gm_Q (dC, dI) [(cI, .int)] A (some (.int out.1)) (wX11_talks cI q q_refused q_tongue q_fresh q_kept q_isKept q_text q_said q_talk out.2.1 m_size m_at m_start m_token m_value m_faultAt m_allowed m_firstPair m_secondPair m_above m_below out.2.2.1 out.2.2.2)) args s 0 0 A) (F0 m 29 ls []) := by
  obtain ⟨hx, hb, hml, hr, hown, hts, hA, hK, hX, hlocks⟩ := id C0
  unfold fX11_talks_b29 at h
  refine lv_aload_n hx hb dX11_talks_29 rfl (lv_at hl 0 rfl) ?_
  obtain ⟨o3, ho3, h⟩ := gm_bind_e h
  refine gm_callV (As := []) (rest := []) (n := 0) (ci := 11) (q0 := 0) C0 hH (mX11_bad l dC dI cI q q_refused q_tongue q_fresh q_kept q_isKept q_text q_said q_talk m_thrown m_size m_at m_start m_token m_value m_faultAt m_allowed m_firstPair m_secondPair m_above m_below m_refused    ho3) gX11_talks_X11_bad rfl (by decide +kernel) ⟨rfl, rfl, Nat.le_of_ble_eq_true rfl, Nat.le_of_ble_eq_true rfl⟩ gm_T_ok (fun _ => trivial) [0, 1] rfl rfl rfl [0] rfl rfl rfl rfl hl.1 rfl (Nat.le_of_ble_eq_true rfl) dX11_talks_30 ⟨Nat.zero_le _, Nat.zero_le _⟩ (fun H locs hH => ?_)
  have hH : gm_H (dC, dI) A s (wX11_talks cI q q_refused q_tongue q_fresh q_kept q_isKept q_text q_said q_talk m_thrown m_size m_at m_start m_token m_value m_faultAt m_allowed m_firstPair m_secondPair m_above m_below o3.2 m_tongue) H locs := hH
  obtain rfl := Option.some.inj h
  exact gm_iret C0 hH dX11_talks_33
set_option maxRecDepth 100000 in
set_option maxHeartbeats 4000000 in
theorem tX11_talks_b267 {p : Program} {l : Launch} {e : Env} {s : State} {m : MethodId} {args : Array Value} {below : List Frame} {meth : Method} {c : Code} {A : Nat → Prop} {dC : Nat → ClassId} {dI : Nat → Nat → Nat} {cI : ClassId} {q q_refused q_tongue q_fresh q_kept q_isKept q_text q_said q_talk : Nat} {m_thrown : Int32} {m_size : Int32} {m_at : Int32} {m_start : Int32} {m_token : Int32} {m_value : Int64} {m_faultAt : Int32} {m_allowed : Int32} {m_firstPair : Int32} {m_secondPair : Int32} {m_above : Int64} {m_below : Int64} {m_refused : Nat → Int32} {m_tongue : Nat → Int32} {x3 : Int32} {x6 : Int32} (C0 : gm_C p s m args meth c (dC, dI) [(cI, .int)] A gm_T RX11 cX11_talks 13 (some .int) wsX11_talks) {N : Nat} {out : Int32 × Int32 × (Nat → Int32) × (Nat → Int32)}    {H : Heap} {locs : List Loc} {ls : Array Slot} (h : fX11_talks_b267 N  m_thrown m_refused m_tongue x3 x6 = some out) (hH : gm_H (dC, dI) A s (wX11_talks cI q q_refused q_tongue q_fresh q_kept q_isKept q_text q_said q_talk m_thrown m_size m_at m_start m_token m_value m_faultAt m_allowed m_firstPair m_secondPair m_above m_below m_refused m_tongue) H locs) (hl : lv_has ls 13 [(0, .ref q), (3, .int x3), (6, .int x6)]) : W p l e rX11_talks s m args below meth c H locs 0 0 (MQ below (gm_Q (dC, dI) [(cI, .int)] A (some (.int out.1)) (wX11_talks cI q q_refused q_tongue q_fresh q_kept q_isKept q_text q_said q_talk out.2.1 m_size m_at m_start m_token m_value m_faultAt m_allowed m_firstPair m_secondPair m_above m_below out.2.2.1 out.2.2.2)) args s 0 0 A) (F0 m 267 ls []) := by
  obtain ⟨hx, hb, hml, hr, hown, hts, hA, hK, hX, hlocks⟩ := id C0
  unfold fX11_talks_b267 at h
  refine lv_aload_n hx hb dX11_talks_267 rfl (lv_at hl 0 rfl) ?_
  refine gm_get (ci := 11) C0 hH inX11_talks_X11 0 2 4 rfl rfl (by decide) rfl rfl dX11_talks_268 ?_
  refine lv_iconst (v := 2) hx hb dX11_talks_271 (by decide) ?_
  refine lv_iload_n hx hb dX11_talks_272 rfl (lv_at hl 1 rfl) ?_
  obtain ⟨hi14, h⟩ := gm_chk_e h
  refine gm_iast C0 hH hi14 2 0 rfl rfl dX11_talks_273 (fun H locs hH => ?_)
  have hH : gm_H (dC, dI) A s (wX11_talks cI q q_refused q_tongue q_fresh q_kept q_isKept q_text q_said q_talk m_thrown m_size m_at m_start m_token m_value m_faultAt m_allowed m_firstPair m_secondPair m_above m_below m_refused (upd m_tongue (Int32.toNatClampNeg 2) x3)) H locs := hH
  refine lv_iload hx hb dX11_talks_274 (lv_at hl 2 rfl) ?_
  obtain rfl := Option.some.inj h
  exact gm_iret C0 hH dX11_talks_276
set_option maxRecDepth 100000 in
set_option maxHeartbeats 4000000 in
theorem tX11_talks_b258 {p : Program} {l : Launch} {e : Env} {s : State} {m : MethodId} {args : Array Value} {below : List Frame} {meth : Method} {c : Code} {A : Nat → Prop} {dC : Nat → ClassId} {dI : Nat → Nat → Nat} {cI : ClassId} {q q_refused q_tongue q_fresh q_kept q_isKept q_text q_said q_talk : Nat} {m_thrown : Int32} {m_size : Int32} {m_at : Int32} {m_start : Int32} {m_token : Int32} {m_value : Int64} {m_faultAt : Int32} {m_allowed : Int32} {m_firstPair : Int32} {m_secondPair : Int32} {m_above : Int64} {m_below : Int64} {m_refused : Nat → Int32} {m_tongue : Nat → Int32} {x2 : Int32} {x3 : Int32} {x4 : Int64} {x7 : Int32} {k0 : Int32} {k1 : Int32} (C0 : gm_C p s m args meth c (dC, dI) [(cI, .int)] A gm_T RX11 cX11_talks 13 (some .int) wsX11_talks) {N : Nat} {out : Int32 × Int32 × (Nat → Int32) × (Nat → Int32)} {r71 : (Nat → Int32) → Int64 → Int32 → Int32 → Option (Int32 × Int32 × (Nat → Int32) × (Nat → Int32))} (hr71 : ∀ (m_tongue : Nat → Int32) (x4 : Int64) (x6 : Int32) (x7 : Int32) (H : Heap) (locs : List Loc) (ls : Array Slot), r71 m_tongue x4 x6 x7 = some out → gm_H (dC, dI) A s (wX11_talks cI q q_refused q_tongue q_fresh q_kept q_isKept q_text q_said q_talk m_thrown m_size m_at m_start m_token m_value m_faultAt m_allowed m_firstPair m_secondPair m_above m_below m_refused m_tongue) H locs → lv_has ls 13 [(0, .ref q), (2, .int x2), (3, .int x3), (4, .long x4), (6, .int x6), (7, .int x7)] → W p l e rX11_talks s m args below meth c H locs 0 0 (MQ below (gm_Q (dC, dI) [(cI, .int)] A (some (.int out.1)) (wX11_talks cI q q_refused q_tongue q_fresh q_kept q_isKept q_text q_said q_talk out.2.1 m_size m_at m_start m_token m_value m_faultAt m_allowed m_firstPair m_secondPair m_above m_below out.2.2.1 out.2.2.2)) args s 0 0 A) (F0 m 71 ls []))   {H : Heap} {locs : List Loc} {ls : Array Slot} (h : fX11_talks_b258 N r71 m_thrown m_refused m_tongue x2 x3 x4 x7 k0 k1 = some out) (hH : gm_H (dC, dI) A s (wX11_talks cI q q_refused q_tongue q_fresh q_kept q_isKept q_text q_said q_talk m_thrown m_size m_at m_start m_token m_value m_faultAt m_allowed m_firstPair m_secondPair m_above m_below m_refused m_tongue) H locs) (hl : lv_has ls 13 [(0, .ref q), (2, .int x2), (3, .int x3), (4, .long x4), (7, .int x7)]) : W p l e rX11_talks s m args below meth c H locs 0 0 (MQ below (gm_Q (dC, dI) [(cI, .int)] A (some (.int out.1)) (wX11_talks cI q q_refused q_tongue q_fresh q_kept q_isKept q_text q_said q_talk out.2.1 m_size m_at m_start m_token m_value m_faultAt m_allowed m_firstPair m_secondPair m_above m_below out.2.2.1 out.2.2.2)) args s 0 0 A) (F0 m 258 ls [.int k1, .int k0]) := by
  obtain ⟨hx, hb, hml, hr, hown, hts, hA, hK, hX, hlocks⟩ := id C0
  unfold fX11_talks_b258 at h
  refine lv_iadd hx hb dX11_talks_258 ?_
  refine lv_topi (fun v31 ev31 => ?_)
  replace h := gm_let_e ev31 h
  refine lv_istore (lv' := [(6, .int v31), (0, .ref q), (2, .int x2), (3, .int x3), (4, .long x4), (7, .int x7)]) hx hb dX11_talks_259 hl (by decide) rfl (fun ls hl => ?_)
  refine lv_iinc (v := (x7 + 1)) (lv' := [(7, .int (x7 + 1)), (6, .int v31), (0, .ref q), (2, .int x2), (3, .int x3), (4, .long x4)]) hx hb dX11_talks_261 hl (k := 5) rfl rfl (by decide) rfl (fun ls hl => ?_)
  refine lv_goto (tgt := 71) hx hb dX11_talks_264 (by decide) ?_
  exact hr71 _ _ _ _ _ _ _ h hH (lv_sub hl [2, 3, 4, 5, 1, 0] rfl)
set_option maxRecDepth 100000 in
set_option maxHeartbeats 4000000 in
theorem tX11_talks_b244 {p : Program} {l : Launch} {e : Env} {s : State} {m : MethodId} {args : Array Value} {below : List Frame} {meth : Method} {c : Code} {A : Nat → Prop} {dC : Nat → ClassId} {dI : Nat → Nat → Nat} {cI : ClassId} {q q_refused q_tongue q_fresh q_kept q_isKept q_text q_said q_talk : Nat} {m_thrown : Int32} {m_size : Int32} {m_at : Int32} {m_start : Int32} {m_token : Int32} {m_value : Int64} {m_faultAt : Int32} {m_allowed : Int32} {m_firstPair : Int32} {m_secondPair : Int32} {m_above : Int64} {m_below : Int64} {m_refused : Nat → Int32} {m_tongue : Nat → Int32} {x2 : Int32} {x3 : Int32} {x4 : Int64} {x6 : Int32} {x7 : Int32} {x10 : Int32} {k1 : Int32} {k2 : Int32} (C0 : gm_C p s m args meth c (dC, dI) [(cI, .int)] A gm_T RX11 cX11_talks 13 (some .int) wsX11_talks) {N : Nat} {out : Int32 × Int32 × (Nat → Int32) × (Nat → Int32)} {r71 : (Nat → Int32) → Int64 → Int32 → Int32 → Option (Int32 × Int32 × (Nat → Int32) × (Nat → Int32))} (hr71 : ∀ (m_tongue : Nat → Int32) (x4 : Int64) (x6 : Int32) (x7 : Int32) (H : Heap) (locs : List Loc) (ls : Array Slot), r71 m_tongue x4 x6 x7 = some out → gm_H (dC, dI) A s (wX11_talks cI q q_refused q_tongue q_fresh q_kept q_isKept q_text q_said q_talk m_thrown m_size m_at m_start m_token m_value m_faultAt m_allowed m_firstPair m_secondPair m_above m_below m_refused m_tongue) H locs → lv_has ls 13 [(0, .ref q), (2, .int x2), (3, .int x3), (4, .long x4), (6, .int x6), (7, .int x7)] → W p l e rX11_talks s m args below meth c H locs 0 0 (MQ below (gm_Q (dC, dI) [(cI, .int)] A (some (.int out.1)) (wX11_talks cI q q_refused q_tongue q_fresh q_kept q_isKept q_text q_said q_talk out.2.1 m_size m_at m_start m_token m_value m_faultAt m_allowed m_firstPair m_secondPair m_above m_below out.2.2.1 out.2.2.2)) args s 0 0 A) (F0 m 71 ls []))   {H : Heap} {locs : List Loc} {ls : Array Slot} (h : fX11_talks_b244 N r71 m_thrown m_refused m_tongue x2 x3 x4 x6 x7 x10 k1 k2 = some out) (hH : gm_H (dC, dI) A s (wX11_talks cI q q_refused q_tongue q_fresh q_kept q_isKept q_text q_said q_talk m_thrown m_size m_at m_start m_token m_value m_faultAt m_allowed m_firstPair m_secondPair m_above m_below m_refused m_tongue) H locs) (hl : lv_has ls 13 [(0, .ref q), (2, .int x2), (3, .int x3), (4, .long x4), (6, .int x6), (7, .int x7), (10, .int x10)]) : W p l e rX11_talks s m args below meth c H locs 0 0 (MQ below (gm_Q (dC, dI) [(cI, .int)] A (some (.int out.1)) (wX11_talks cI q q_refused q_tongue q_fresh q_kept q_isKept q_text q_said q_talk out.2.1 m_size m_at m_start m_token m_value m_faultAt m_allowed m_firstPair m_secondPair m_above m_below out.2.2.1 out.2.2.2)) args s 0 0 A) (F0 m 244 ls [.int k2, .int k1, .ref q_tongue]) := by
  obtain ⟨hx, hb, hml, hr, hown, hts, hA, hK, hX, hlocks⟩ := id C0
  unfold fX11_talks_b244 at h
  obtain ⟨hi29, h⟩ := gm_chk_e h
  refine gm_iast C0 hH hi29 2 0 rfl rfl dX11_talks_244 (fun H locs hH => ?_)
  have hH : gm_H (dC, dI) A s (wX11_talks cI q q_refused q_tongue q_fresh q_kept q_isKept q_text q_said q_talk m_thrown m_size m_at m_start m_token m_value m_faultAt m_allowed m_firstPair m_secondPair m_above m_below m_refused (upd m_tongue (Int32.toNatClampNeg k1) k2)) H locs := hH
  refine lv_iload hx hb dX11_talks_245 (lv_at hl 4 rfl) ?_
  refine lv_iload hx hb dX11_talks_247 (lv_at hl 6 rfl) ?_
  refine lv_iconst (v := (-1)) hx hb dX11_talks_249 (by decide) ?_
  refine lv_icmp_ne (tgt := 257) hx hb dX11_talks_250 (by decide) (fun hc30 => ?_) (fun hc30 => ?_)
  · replace h := gm_neg hc30 h
    refine lv_iconst (v := 1) hx hb dX11_talks_257 (by decide) ?_
    exact tX11_talks_b258 C0 hr71 h hH (lv_sub hl [0, 1, 2, 3, 5] rfl)
  · replace h := gm_pos hc30 h
    refine lv_iconst (v := 0) hx hb dX11_talks_253 (by decide) ?_
    refine lv_goto (tgt := 258) hx hb dX11_talks_254 (by decide) ?_
    exact tX11_talks_b258 C0 hr71 h hH (lv_sub hl [0, 1, 2, 3, 5] rfl)
set_option maxRecDepth 100000 in
set_option maxHeartbeats 4000000 in
theorem tX11_talks_b218 {p : Program} {l : Launch} {e : Env} {s : State} {m : MethodId} {args : Array Value} {below : List Frame} {meth : Method} {c : Code} {A : Nat → Prop} {dC : Nat → ClassId} {dI : Nat → Nat → Nat} {cI : ClassId} {q q_refused q_tongue q_fresh q_kept q_isKept q_text q_said q_talk : Nat} {m_thrown : Int32} {m_size : Int32} {m_at : Int32} {m_start : Int32} {m_token : Int32} {m_value : Int64} {m_faultAt : Int32} {m_allowed : Int32} {m_firstPair : Int32} {m_secondPair : Int32} {m_above : Int64} {m_below : Int64} {m_refused : Nat → Int32} {m_tongue : Nat → Int32} {x2 : Int32} {x3 : Int32} {x4 : Int64} {x6 : Int32} {x7 : Int32} {x10 : Int32} (C0 : gm_C p s m args meth c (dC, dI) [(cI, .int)] A gm_T RX11 cX11_talks 13 (some .int) wsX11_talks) {N : Nat} {out : Int32 × Int32 × (Nat → Int32) × (Nat → Int32)} {r71 : (Nat → Int32) → Int64 → Int32 → Int32 → Option (Int32 × Int32 × (Nat → Int32) × (Nat → Int32))} (hr71 : ∀ (m_tongue : Nat → Int32) (x4 : Int64) (x6 : Int32) (x7 : Int32) (H : Heap) (locs : List Loc) (ls : Array Slot), r71 m_tongue x4 x6 x7 = some out → gm_H (dC, dI) A s (wX11_talks cI q q_refused q_tongue q_fresh q_kept q_isKept q_text q_said q_talk m_thrown m_size m_at m_start m_token m_value m_faultAt m_allowed m_firstPair m_secondPair m_above m_below m_refused m_tongue) H locs → lv_has ls 13 [(0, .ref q), (2, .int x2), (3, .int x3), (4, .long x4), (6, .int x6), (7, .int x7)] → W p l e rX11_talks s m args below meth c H locs 0 0 (MQ below (gm_Q (dC, dI) [(cI, .int)] A (some (.int out.1)) (wX11_talks cI q q_refused q_tongue q_fresh q_kept q_isKept q_text q_said q_talk out.2.1 m_size m_at m_start m_token m_value m_faultAt m_allowed m_firstPair m_secondPair m_above m_below out.2.2.1 out.2.2.2)) args s 0 0 A) (F0 m 71 ls []))   {H : Heap} {locs : List Loc} {ls : Array Slot} (h : fX11_talks_b218 N r71 m_thrown m_refused m_tongue x2 x3 x4 x6 x7 x10 = some out) (hH : gm_H (dC, dI) A s (wX11_talks cI q q_refused q_tongue q_fresh q_kept q_isKept q_text q_said q_talk m_thrown m_size m_at m_start m_token m_value m_faultAt m_allowed m_firstPair m_secondPair m_above m_below m_refused m_tongue) H locs) (hl : lv_has ls 13 [(0, .ref q), (2, .int x2), (3, .int x3), (4, .long x4), (6, .int x6), (7, .int x7), (10, .int x10)]) : W p l e rX11_talks s m args below meth c H locs 0 0 (MQ below (gm_Q (dC, dI) [(cI, .int)] A (some (.int out.1)) (wX11_talks cI q q_refused q_tongue q_fresh q_kept q_isKept q_text q_said q_talk out.2.1 m_size m_at m_start m_token m_value m_faultAt m_allowed m_firstPair m_secondPair m_above m_below out.2.2.1 out.2.2.2)) args s 0 0 A) (F0 m 218 ls []) := by
  obtain ⟨hx, hb, hml, hr, hown, hts, hA, hK, hX, hlocks⟩ := id C0
  unfold fX11_talks_b218 at h
  refine lv_aload_n hx hb dX11_talks_218 rfl (lv_at hl 0 rfl) ?_
  refine gm_get (ci := 11) C0 hH inX11_talks_X11 0 2 4 rfl rfl (by decide) rfl rfl dX11_talks_219 ?_
  refine lv_iconst (v := 2) hx hb dX11_talks_222 (by decide) ?_
  refine lv_iload hx hb dX11_talks_223 (lv_at hl 6 rfl) ?_
  refine lv_iconst (v := (-1)) hx hb dX11_talks_225 (by decide) ?_
  refine lv_icmp_ne (tgt := 233) hx hb dX11_talks_226 (by decide) (fun hc27 => ?_) (fun hc27 => ?_)
  · replace h := gm_neg hc27 h
    refine lv_aload_n hx hb dX11_talks_233 rfl (lv_at hl 0 rfl) ?_
    refine gm_get (ci := 11) C0 hH inX11_talks_X11 0 2 4 rfl rfl (by decide) rfl rfl dX11_talks_234 ?_
    refine lv_iconst (v := 2) hx hb dX11_talks_237 (by decide) ?_
    obtain ⟨hi28, h⟩ := gm_chk_e h
    refine gm_iald C0 hH hi28 2 0 rfl rfl dX11_talks_238 ?_
    refine lv_iconst (v := 1) hx hb dX11_talks_239 (by decide) ?_
    refine lv_iload hx hb dX11_talks_240 (lv_at hl 6 rfl) ?_
    refine lv_ishl hx hb dX11_talks_242 ?_
    refine lv_ior hx hb dX11_talks_243 ?_
    exact tX11_talks_b244 C0 hr71 h hH (lv_sub hl [0, 1, 2, 3, 4, 5, 6] rfl)
  · replace h := gm_pos hc27 h
    refine lv_iconst (v := 0) hx hb dX11_talks_229 (by decide) ?_
    refine lv_goto (tgt := 244) hx hb dX11_talks_230 (by decide) ?_
    exact tX11_talks_b244 C0 hr71 h hH (lv_sub hl [0, 1, 2, 3, 4, 5, 6] rfl)
set_option maxRecDepth 100000 in
set_option maxHeartbeats 4000000 in
theorem tX11_talks_b210 {p : Program} {l : Launch} {e : Env} {s : State} {m : MethodId} {args : Array Value} {below : List Frame} {meth : Method} {c : Code} {A : Nat → Prop} {dC : Nat → ClassId} {dI : Nat → Nat → Nat} {cI : ClassId} {q q_refused q_tongue q_fresh q_kept q_isKept q_text q_said q_talk : Nat} {m_thrown : Int32} {m_size : Int32} {m_at : Int32} {m_start : Int32} {m_token : Int32} {m_value : Int64} {m_faultAt : Int32} {m_allowed : Int32} {m_firstPair : Int32} {m_secondPair : Int32} {m_above : Int64} {m_below : Int64} {m_refused : Nat → Int32} {m_tongue : Nat → Int32} {x2 : Int32} {x3 : Int32} {x4 : Int64} {x6 : Int32} {x7 : Int32} {x8 : Int32} {x9 : Int32} {x11 : Int32} {k0 : Int32} (C0 : gm_C p s m args meth c (dC, dI) [(cI, .int)] A gm_T RX11 cX11_talks 13 (some .int) wsX11_talks) {N : Nat} {out : Int32 × Int32 × (Nat → Int32) × (Nat → Int32)} {r71 : (Nat → Int32) → Int64 → Int32 → Int32 → Option (Int32 × Int32 × (Nat → Int32) × (Nat → Int32))} (hr71 : ∀ (m_tongue : Nat → Int32) (x4 : Int64) (x6 : Int32) (x7 : Int32) (H : Heap) (locs : List Loc) (ls : Array Slot), r71 m_tongue x4 x6 x7 = some out → gm_H (dC, dI) A s (wX11_talks cI q q_refused q_tongue q_fresh q_kept q_isKept q_text q_said q_talk m_thrown m_size m_at m_start m_token m_value m_faultAt m_allowed m_firstPair m_secondPair m_above m_below m_refused m_tongue) H locs → lv_has ls 13 [(0, .ref q), (2, .int x2), (3, .int x3), (4, .long x4), (6, .int x6), (7, .int x7)] → W p l e rX11_talks s m args below meth c H locs 0 0 (MQ below (gm_Q (dC, dI) [(cI, .int)] A (some (.int out.1)) (wX11_talks cI q q_refused q_tongue q_fresh q_kept q_isKept q_text q_said q_talk out.2.1 m_size m_at m_start m_token m_value m_faultAt m_allowed m_firstPair m_secondPair m_above m_below out.2.2.1 out.2.2.2)) args s 0 0 A) (F0 m 71 ls [])) {r140 : Int32 → Int32 → Option (Int32 × Int32 × (Nat → Int32) × (Nat → Int32))} (hr140 : ∀ (x10 : Int32) (x11 : Int32) (H : Heap) (locs : List Loc) (ls : Array Slot), r140 x10 x11 = some out → gm_H (dC, dI) A s (wX11_talks cI q q_refused q_tongue q_fresh q_kept q_isKept q_text q_said q_talk m_thrown m_size m_at m_start m_token m_value m_faultAt m_allowed m_firstPair m_secondPair m_above m_below m_refused m_tongue) H locs → lv_has ls 13 [(0, .ref q), (2, .int x2), (3, .int x3), (4, .long x4), (6, .int x6), (7, .int x7), (8, .int x8), (9, .int x9), (10, .int x10), (11, .int x11)] → W p l e rX11_talks s m args below meth c H locs 0 0 (MQ below (gm_Q (dC, dI) [(cI, .int)] A (some (.int out.1)) (wX11_talks cI q q_refused q_tongue q_fresh q_kept q_isKept q_text q_said q_talk out.2.1 m_size m_at m_start m_token m_value m_faultAt m_allowed m_firstPair m_secondPair m_above m_below out.2.2.1 out.2.2.2)) args s 0 0 A) (F0 m 140 ls []))   {H : Heap} {locs : List Loc} {ls : Array Slot} (h : fX11_talks_b210 N r71 r140 m_thrown m_refused m_tongue x2 x3 x4 x6 x7 x8 x9 x11 k0 = some out) (hH : gm_H (dC, dI) A s (wX11_talks cI q q_refused q_tongue q_fresh q_kept q_isKept q_text q_said q_talk m_thrown m_size m_at m_start m_token m_value m_faultAt m_allowed m_firstPair m_secondPair m_above m_below m_refused m_tongue) H locs) (hl : lv_has ls 13 [(0, .ref q), (2, .int x2), (3, .int x3), (4, .long x4), (6, .int x6), (7, .int x7), (8, .int x8), (9, .int x9), (11, .int x11)]) : W p l e rX11_talks s m args below meth c H locs 0 0 (MQ below (gm_Q (dC, dI) [(cI, .int)] A (some (.int out.1)) (wX11_talks cI q q_refused q_tongue q_fresh q_kept q_isKept q_text q_said q_talk out.2.1 m_size m_at m_start m_token m_value m_faultAt m_allowed m_firstPair m_secondPair m_above m_below out.2.2.1 out.2.2.2)) args s 0 0 A) (F0 m 210 ls [.int k0]) := by
  obtain ⟨hx, hb, hml, hr, hown, hts, hA, hK, hX, hlocks⟩ := id C0
  unfold fX11_talks_b210 at h
  refine lv_istore (lv' := [(10, .int k0), (0, .ref q), (2, .int x2), (3, .int x3), (4, .long x4), (6, .int x6), (7, .int x7), (8, .int x8), (9, .int x9), (11, .int x11)]) hx hb dX11_talks_210 hl (by decide) rfl (fun ls hl => ?_)
  refine lv_iinc (v := (x11 + (-1))) (lv' := [(11, .int (x11 + (-1))), (10, .int k0), (0, .ref q), (2, .int x2), (3, .int x3), (4, .long x4), (6, .int x6), (7, .int x7), (8, .int x8), (9, .int x9)]) hx hb dX11_talks_212 hl (k := 9) rfl rfl (by decide) rfl (fun ls hl => ?_)
  refine lv_goto (tgt := 140) hx hb dX11_talks_215 (by decide) ?_
  exact hr140 _ _ _ _ _ h hH (lv_sub hl [2, 3, 4, 5, 6, 7, 8, 9, 1, 0] rfl)
set_option maxRecDepth 100000 in
set_option maxHeartbeats 4000000 in
theorem tX11_talks_b208 {p : Program} {l : Launch} {e : Env} {s : State} {m : MethodId} {args : Array Value} {below : List Frame} {meth : Method} {c : Code} {A : Nat → Prop} {dC : Nat → ClassId} {dI : Nat → Nat → Nat} {cI : ClassId} {q q_refused q_tongue q_fresh q_kept q_isKept q_text q_said q_talk : Nat} {m_thrown : Int32} {m_size : Int32} {m_at : Int32} {m_start : Int32} {m_token : Int32} {m_value : Int64} {m_faultAt : Int32} {m_allowed : Int32} {m_firstPair : Int32} {m_secondPair : Int32} {m_above : Int64} {m_below : Int64} {m_refused : Nat → Int32} {m_tongue : Nat → Int32} {x2 : Int32} {x3 : Int32} {x4 : Int64} {x6 : Int32} {x7 : Int32} {x8 : Int32} {x9 : Int32} {x10 : Int32} {x11 : Int32} (C0 : gm_C p s m args meth c (dC, dI) [(cI, .int)] A gm_T RX11 cX11_talks 13 (some .int) wsX11_talks) {N : Nat} {out : Int32 × Int32 × (Nat → Int32) × (Nat → Int32)} {r71 : (Nat → Int32) → Int64 → Int32 → Int32 → Option (Int32 × Int32 × (Nat → Int32) × (Nat → Int32))} (hr71 : ∀ (m_tongue : Nat → Int32) (x4 : Int64) (x6 : Int32) (x7 : Int32) (H : Heap) (locs : List Loc) (ls : Array Slot), r71 m_tongue x4 x6 x7 = some out → gm_H (dC, dI) A s (wX11_talks cI q q_refused q_tongue q_fresh q_kept q_isKept q_text q_said q_talk m_thrown m_size m_at m_start m_token m_value m_faultAt m_allowed m_firstPair m_secondPair m_above m_below m_refused m_tongue) H locs → lv_has ls 13 [(0, .ref q), (2, .int x2), (3, .int x3), (4, .long x4), (6, .int x6), (7, .int x7)] → W p l e rX11_talks s m args below meth c H locs 0 0 (MQ below (gm_Q (dC, dI) [(cI, .int)] A (some (.int out.1)) (wX11_talks cI q q_refused q_tongue q_fresh q_kept q_isKept q_text q_said q_talk out.2.1 m_size m_at m_start m_token m_value m_faultAt m_allowed m_firstPair m_secondPair m_above m_below out.2.2.1 out.2.2.2)) args s 0 0 A) (F0 m 71 ls [])) {r140 : Int32 → Int32 → Option (Int32 × Int32 × (Nat → Int32) × (Nat → Int32))} (hr140 : ∀ (x10 : Int32) (x11 : Int32) (H : Heap) (locs : List Loc) (ls : Array Slot), r140 x10 x11 = some out → gm_H (dC, dI) A s (wX11_talks cI q q_refused q_tongue q_fresh q_kept q_isKept q_text q_said q_talk m_thrown m_size m_at m_start m_token m_value m_faultAt m_allowed m_firstPair m_secondPair m_above m_below m_refused m_tongue) H locs → lv_has ls 13 [(0, .ref q), (2, .int x2), (3, .int x3), (4, .long x4), (6, .int x6), (7, .int x7), (8, .int x8), (9, .int x9), (10, .int x10), (11, .int x11)] → W p l e rX11_talks s m args below meth c H locs 0 0 (MQ below (gm_Q (dC, dI) [(cI, .int)] A (some (.int out.1)) (wX11_talks cI q q_refused q_tongue q_fresh q_kept q_isKept q_text q_said q_talk out.2.1 m_size m_at m_start m_token m_value m_faultAt m_allowed m_firstPair m_secondPair m_above m_below out.2.2.1 out.2.2.2)) args s 0 0 A) (F0 m 140 ls []))   {H : Heap} {locs : List Loc} {ls : Array Slot} (h : fX11_talks_b208 N r71 r140 m_thrown m_refused m_tongue x2 x3 x4 x6 x7 x8 x9 x10 x11 = some out) (hH : gm_H (dC, dI) A s (wX11_talks cI q q_refused q_tongue q_fresh q_kept q_isKept q_text q_said q_talk m_thrown m_size m_at m_start m_token m_value m_faultAt m_allowed m_firstPair m_secondPair m_above m_below m_refused m_tongue) H locs) (hl : lv_has ls 13 [(0, .ref q), (2, .int x2), (3, .int x3), (4, .long x4), (6, .int x6), (7, .int x7), (8, .int x8), (9, .int x9), (10, .int x10), (11, .int x11)]) : W p l e rX11_talks s m args below meth c H locs 0 0 (MQ below (gm_Q (dC, dI) [(cI, .int)] A (some (.int out.1)) (wX11_talks cI q q_refused q_tongue q_fresh q_kept q_isKept q_text q_said q_talk out.2.1 m_size m_at m_start m_token m_value m_faultAt m_allowed m_firstPair m_secondPair m_above m_below out.2.2.1 out.2.2.2)) args s 0 0 A) (F0 m 208 ls []) := by
  obtain ⟨hx, hb, hml, hr, hown, hts, hA, hK, hX, hlocks⟩ := id C0
  unfold fX11_talks_b208 at h
  refine lv_iload hx hb dX11_talks_208 (lv_at hl 8 rfl) ?_
  exact tX11_talks_b210 C0 hr71 hr140 h hH (lv_sub hl [0, 1, 2, 3, 4, 5, 6, 7, 9] rfl)
set_option maxRecDepth 100000 in
set_option maxHeartbeats 4000000 in
theorem tX11_talks_b203 {p : Program} {l : Launch} {e : Env} {s : State} {m : MethodId} {args : Array Value} {below : List Frame} {meth : Method} {c : Code} {A : Nat → Prop} {dC : Nat → ClassId} {dI : Nat → Nat → Nat} {cI : ClassId} {q q_refused q_tongue q_fresh q_kept q_isKept q_text q_said q_talk : Nat} {m_thrown : Int32} {m_size : Int32} {m_at : Int32} {m_start : Int32} {m_token : Int32} {m_value : Int64} {m_faultAt : Int32} {m_allowed : Int32} {m_firstPair : Int32} {m_secondPair : Int32} {m_above : Int64} {m_below : Int64} {m_refused : Nat → Int32} {m_tongue : Nat → Int32} {x2 : Int32} {x3 : Int32} {x4 : Int64} {x6 : Int32} {x7 : Int32} {x8 : Int32} {x9 : Int32} {x11 : Int32} (C0 : gm_C p s m args meth c (dC, dI) [(cI, .int)] A gm_T RX11 cX11_talks 13 (some .int) wsX11_talks) {N : Nat} {out : Int32 × Int32 × (Nat → Int32) × (Nat → Int32)} {r71 : (Nat → Int32) → Int64 → Int32 → Int32 → Option (Int32 × Int32 × (Nat → Int32) × (Nat → Int32))} (hr71 : ∀ (m_tongue : Nat → Int32) (x4 : Int64) (x6 : Int32) (x7 : Int32) (H : Heap) (locs : List Loc) (ls : Array Slot), r71 m_tongue x4 x6 x7 = some out → gm_H (dC, dI) A s (wX11_talks cI q q_refused q_tongue q_fresh q_kept q_isKept q_text q_said q_talk m_thrown m_size m_at m_start m_token m_value m_faultAt m_allowed m_firstPair m_secondPair m_above m_below m_refused m_tongue) H locs → lv_has ls 13 [(0, .ref q), (2, .int x2), (3, .int x3), (4, .long x4), (6, .int x6), (7, .int x7)] → W p l e rX11_talks s m args below meth c H locs 0 0 (MQ below (gm_Q (dC, dI) [(cI, .int)] A (some (.int out.1)) (wX11_talks cI q q_refused q_tongue q_fresh q_kept q_isKept q_text q_said q_talk out.2.1 m_size m_at m_start m_token m_value m_faultAt m_allowed m_firstPair m_secondPair m_above m_below out.2.2.1 out.2.2.2)) args s 0 0 A) (F0 m 71 ls [])) {r140 : Int32 → Int32 → Option (Int32 × Int32 × (Nat → Int32) × (Nat → Int32))} (hr140 : ∀ (x10 : Int32) (x11 : Int32) (H : Heap) (locs : List Loc) (ls : Array Slot), r140 x10 x11 = some out → gm_H (dC, dI) A s (wX11_talks cI q q_refused q_tongue q_fresh q_kept q_isKept q_text q_said q_talk m_thrown m_size m_at m_start m_token m_value m_faultAt m_allowed m_firstPair m_secondPair m_above m_below m_refused m_tongue) H locs → lv_has ls 13 [(0, .ref q), (2, .int x2), (3, .int x3), (4, .long x4), (6, .int x6), (7, .int x7), (8, .int x8), (9, .int x9), (10, .int x10), (11, .int x11)] → W p l e rX11_talks s m args below meth c H locs 0 0 (MQ below (gm_Q (dC, dI) [(cI, .int)] A (some (.int out.1)) (wX11_talks cI q q_refused q_tongue q_fresh q_kept q_isKept q_text q_said q_talk out.2.1 m_size m_at m_start m_token m_value m_faultAt m_allowed m_firstPair m_secondPair m_above m_below out.2.2.1 out.2.2.2)) args s 0 0 A) (F0 m 140 ls []))   {H : Heap} {locs : List Loc} {ls : Array Slot} (h : fX11_talks_b203 N r71 r140 m_thrown m_refused m_tongue x2 x3 x4 x6 x7 x8 x9 x11 = some out) (hH : gm_H (dC, dI) A s (wX11_talks cI q q_refused q_tongue q_fresh q_kept q_isKept q_text q_said q_talk m_thrown m_size m_at m_start m_token m_value m_faultAt m_allowed m_firstPair m_secondPair m_above m_below m_refused m_tongue) H locs) (hl : lv_has ls 13 [(0, .ref q), (2, .int x2), (3, .int x3), (4, .long x4), (6, .int x6), (7, .int x7), (8, .int x8), (9, .int x9), (11, .int x11)]) : W p l e rX11_talks s m args below meth c H locs 0 0 (MQ below (gm_Q (dC, dI) [(cI, .int)] A (some (.int out.1)) (wX11_talks cI q q_refused q_tongue q_fresh q_kept q_isKept q_text q_said q_talk out.2.1 m_size m_at m_start m_token m_value m_faultAt m_allowed m_firstPair m_secondPair m_above m_below out.2.2.1 out.2.2.2)) args s 0 0 A) (F0 m 203 ls []) := by
  obtain ⟨hx, hb, hml, hr, hown, hts, hA, hK, hX, hlocks⟩ := id C0
  unfold fX11_talks_b203 at h
  refine lv_iload hx hb dX11_talks_203 (lv_at hl 8 rfl) ?_
  refine lv_goto (tgt := 210) hx hb dX11_talks_205 (by decide) ?_
  exact tX11_talks_b210 C0 hr71 hr140 h hH (lv_sub hl [0, 1, 2, 3, 4, 5, 6, 7, 8] rfl)
set_option maxRecDepth 100000 in
set_option maxHeartbeats 4000000 in
theorem tX11_talks_b171 {p : Program} {l : Launch} {e : Env} {s : State} {m : MethodId} {args : Array Value} {below : List Frame} {meth : Method} {c : Code} {A : Nat → Prop} {dC : Nat → ClassId} {dI : Nat → Nat → Nat} {cI : ClassId} {q q_refused q_tongue q_fresh q_kept q_isKept q_text q_said q_talk : Nat} {m_thrown : Int32} {m_size : Int32} {m_at : Int32} {m_start : Int32} {m_token : Int32} {m_value : Int64} {m_faultAt : Int32} {m_allowed : Int32} {m_firstPair : Int32} {m_secondPair : Int32} {m_above : Int64} {m_below : Int64} {m_refused : Nat → Int32} {m_tongue : Nat → Int32} {x2 : Int32} {x3 : Int32} {x4 : Int64} {x6 : Int32} {x7 : Int32} {x8 : Int32} {x9 : Int32} {x10 : Int32} {x11 : Int32} {k0 : Int32} (C0 : gm_C p s m args meth c (dC, dI) [(cI, .int)] A gm_T RX11 cX11_talks 13 (some .int) wsX11_talks) {N : Nat} {out : Int32 × Int32 × (Nat → Int32) × (Nat → Int32)} {r71 : (Nat → Int32) → Int64 → Int32 → Int32 → Option (Int32 × Int32 × (Nat → Int32) × (Nat → Int32))} (hr71 : ∀ (m_tongue : Nat → Int32) (x4 : Int64) (x6 : Int32) (x7 : Int32) (H : Heap) (locs : List Loc) (ls : Array Slot), r71 m_tongue x4 x6 x7 = some out → gm_H (dC, dI) A s (wX11_talks cI q q_refused q_tongue q_fresh q_kept q_isKept q_text q_said q_talk m_thrown m_size m_at m_start m_token m_value m_faultAt m_allowed m_firstPair m_secondPair m_above m_below m_refused m_tongue) H locs → lv_has ls 13 [(0, .ref q), (2, .int x2), (3, .int x3), (4, .long x4), (6, .int x6), (7, .int x7)] → W p l e rX11_talks s m args below meth c H locs 0 0 (MQ below (gm_Q (dC, dI) [(cI, .int)] A (some (.int out.1)) (wX11_talks cI q q_refused q_tongue q_fresh q_kept q_isKept q_text q_said q_talk out.2.1 m_size m_at m_start m_token m_value m_faultAt m_allowed m_firstPair m_secondPair m_above m_below out.2.2.1 out.2.2.2)) args s 0 0 A) (F0 m 71 ls [])) {r140 : Int32 → Int32 → Option (Int32 × Int32 × (Nat → Int32) × (Nat → Int32))} (hr140 : ∀ (x10 : Int32) (x11 : Int32) (H : Heap) (locs : List Loc) (ls : Array Slot), r140 x10 x11 = some out → gm_H (dC, dI) A s (wX11_talks cI q q_refused q_tongue q_fresh q_kept q_isKept q_text q_said q_talk m_thrown m_size m_at m_start m_token m_value m_faultAt m_allowed m_firstPair m_secondPair m_above m_below m_refused m_tongue) H locs → lv_has ls 13 [(0, .ref q), (2, .int x2), (3, .int x3), (4, .long x4), (6, .int x6), (7, .int x7), (8, .int x8), (9, .int x9), (10, .int x10), (11, .int x11)] → W p l e rX11_talks s m args below meth c H locs 0 0 (MQ below (gm_Q (dC, dI) [(cI, .int)] A (some (.int out.1)) (wX11_talks cI q q_refused q_tongue q_fresh q_kept q_isKept q_text q_said q_talk out.2.1 m_size m_at m_start m_token m_value m_faultAt m_allowed m_firstPair m_secondPair m_above m_below out.2.2.1 out.2.2.2)) args s 0 0 A) (F0 m 140 ls []))   {H : Heap} {locs : List Loc} {ls : Array Slot} (h : fX11_talks_b171 N r71 r140 m_thrown m_refused m_tongue x2 x3 x4 x6 x7 x8 x9 x10 x11 k0 = some out) (hH : gm_H (dC, dI) A s (wX11_talks cI q q_refused q_tongue q_fresh q_kept q_isKept q_text q_said q_talk m_thrown m_size m_at m_start m_token m_value m_faultAt m_allowed m_firstPair m_secondPair m_above m_below m_refused m_tongue) H locs) (hl : lv_has ls 13 [(0, .ref q), (2, .int x2), (3, .int x3), (4, .long x4), (6, .int x6), (7, .int x7), (8, .int x8), (9, .int x9), (10, .int x10), (11, .int x11)]) : W p l e rX11_talks s m args below meth c H locs 0 0 (MQ below (gm_Q (dC, dI) [(cI, .int)] A (some (.int out.1)) (wX11_talks cI q q_refused q_tongue q_fresh q_kept q_isKept q_text q_said q_talk out.2.1 m_size m_at m_start m_token m_value m_faultAt m_allowed m_firstPair m_secondPair m_above m_below out.2.2.1 out.2.2.2)) args s 0 0 A) (F0 m 171 ls [.int k0]) := by
  obtain ⟨hx, hb, hml, hr, hown, hts, hA, hK, hX, hlocks⟩ := id C0
  unfold fX11_talks_b171 at h
  refine lv_istore (lv' := [(12, .int k0), (0, .ref q), (2, .int x2), (3, .int x3), (4, .long x4), (6, .int x6), (7, .int x7), (8, .int x8), (9, .int x9), (10, .int x10), (11, .int x11)]) hx hb dX11_talks_171 hl (by decide) rfl (fun ls hl => ?_)
  refine lv_iload hx hb dX11_talks_173 (lv_at hl 8 rfl) ?_
  refine lv_iload hx hb dX11_talks_175 (lv_at hl 10 rfl) ?_
  obtain ⟨o33, ho33, h⟩ := gm_bind_e h
  refine gm_callS (As := [.int x9, .int x11]) (rest := []) (n := 2) C0 hH (mX11_has l dC dI    x9 x11   ho33) gX11_talks_X11_has rfl (by decide +kernel) ⟨rfl, rfl, Nat.le_of_ble_eq_true rfl, Nat.le_of_ble_eq_true rfl⟩ gm_T_ok (fun _ => trivial) [] rfl rfl rfl [] rfl rfl hl.1 rfl (Nat.le_of_ble_eq_true rfl) dX11_talks_177 ⟨Nat.zero_le _, Nat.zero_le _⟩ (fun H locs hH => ?_)
  have hH : gm_H (dC, dI) A s (wX11_talks cI q q_refused q_tongue q_fresh q_kept q_isKept q_text q_said q_talk m_thrown m_size m_at m_start m_token m_value m_faultAt m_allowed m_firstPair m_secondPair m_above m_below m_refused m_tongue) H locs := hH
  refine lv_if_eq (tgt := 208) hx hb dX11_talks_180 (by decide) (fun hc34 => ?_) (fun hc34 => ?_)
  · replace h := gm_pos hc34 h
    exact tX11_talks_b208 C0 hr71 hr140 h hH (lv_sub hl [1, 2, 3, 4, 5, 6, 7, 8, 9, 10] rfl)
  · replace h := gm_neg hc34 h
    refine lv_aload_n hx hb dX11_talks_183 rfl (lv_at hl 1 rfl) ?_
    refine lv_iload hx hb dX11_talks_184 (lv_at hl 10 rfl) ?_
    obtain ⟨o35, ho35, h⟩ := gm_bind_e h
    refine gm_callV (As := [.int x11]) (rest := []) (n := 1) (ci := 11) (q0 := 0) C0 hH (mX11_meaning l dC dI cI q q_tongue q_refused q_fresh q_kept q_isKept q_text q_said q_talk m_thrown m_size m_at m_start m_token m_value m_faultAt m_allowed m_firstPair m_secondPair m_above m_below m_tongue x11   ho35) gX11_talks_X11_meaning rfl (by decide +kernel) ⟨rfl, rfl, Nat.le_of_ble_eq_true rfl, Nat.le_of_ble_eq_true rfl⟩ gm_T_ok (fun _ => trivial) [0, 2] rfl rfl rfl [0] rfl rfl rfl rfl hl.1 rfl (Nat.le_of_ble_eq_true rfl) dX11_talks_186 ⟨Nat.zero_le _, Nat.zero_le _⟩ (fun H locs hH => ?_)
    have hH : gm_H (dC, dI) A s (wX11_talks cI q q_refused q_tongue q_fresh q_kept q_isKept q_text q_said q_talk m_thrown m_size m_at m_start m_token m_value m_faultAt m_allowed m_firstPair m_secondPair m_above m_below m_refused m_tongue) H locs := hH
    refine lv_aload_n hx hb dX11_talks_189 rfl (lv_at hl 1 rfl) ?_
    refine lv_iload hx hb dX11_talks_190 (lv_at hl 7 rfl) ?_
    obtain ⟨o36, ho36, h⟩ := gm_bind_e h
    refine gm_callV (As := [.int x8]) (rest := [.int o35]) (n := 1) (ci := 11) (q0 := 0) C0 hH (mX11_want l dC dI cI q q_tongue q_refused q_fresh q_kept q_isKept q_text q_said q_talk m_thrown m_size m_at m_start m_token m_value m_faultAt m_allowed m_firstPair m_secondPair m_above m_below m_tongue x8   ho36) gX11_talks_X11_want rfl (by decide +kernel) ⟨rfl, rfl, Nat.le_of_ble_eq_true rfl, Nat.le_of_ble_eq_true rfl⟩ gm_T_ok (fun _ => trivial) [0, 2] rfl rfl rfl [0] rfl rfl rfl rfl hl.1 rfl (Nat.le_of_ble_eq_true rfl) dX11_talks_192 ⟨Nat.zero_le _, Nat.zero_le _⟩ (fun H locs hH => ?_)
    have hH : gm_H (dC, dI) A s (wX11_talks cI q q_refused q_tongue q_fresh q_kept q_isKept q_text q_said q_talk m_thrown m_size m_at m_start m_token m_value m_faultAt m_allowed m_firstPair m_secondPair m_above m_below m_refused m_tongue) H locs := hH
    refine lv_icmp_eq (tgt := 203) hx hb dX11_talks_195 (by decide) (fun hc37 => ?_) (fun hc37 => ?_)
    · replace h := gm_pos hc37 h
      exact tX11_talks_b203 C0 hr71 hr140 h hH (lv_sub hl [1, 2, 3, 4, 5, 6, 7, 8, 10] rfl)
    · replace h := gm_neg hc37 h
      refine lv_iload hx hb dX11_talks_198 (lv_at hl 0 rfl) ?_
      refine lv_if_ne (tgt := 208) hx hb dX11_talks_200 (by decide) (fun hc38 => ?_) (fun hc38 => ?_)
      · replace h := gm_neg hc38 h
        exact tX11_talks_b208 C0 hr71 hr140 h hH (lv_sub hl [1, 2, 3, 4, 5, 6, 7, 8, 9, 10] rfl)
      · replace h := gm_pos hc38 h
        exact tX11_talks_b203 C0 hr71 hr140 h hH (lv_sub hl [1, 2, 3, 4, 5, 6, 7, 8, 10] rfl)
set_option maxRecDepth 100000 in
set_option maxHeartbeats 4000000 in
theorem tX11_talks_b170 {p : Program} {l : Launch} {e : Env} {s : State} {m : MethodId} {args : Array Value} {below : List Frame} {meth : Method} {c : Code} {A : Nat → Prop} {dC : Nat → ClassId} {dI : Nat → Nat → Nat} {cI : ClassId} {q q_refused q_tongue q_fresh q_kept q_isKept q_text q_said q_talk : Nat} {m_thrown : Int32} {m_size : Int32} {m_at : Int32} {m_start : Int32} {m_token : Int32} {m_value : Int64} {m_faultAt : Int32} {m_allowed : Int32} {m_firstPair : Int32} {m_secondPair : Int32} {m_above : Int64} {m_below : Int64} {m_refused : Nat → Int32} {m_tongue : Nat → Int32} {x2 : Int32} {x3 : Int32} {x4 : Int64} {x6 : Int32} {x7 : Int32} {x8 : Int32} {x9 : Int32} {x10 : Int32} {x11 : Int32} (C0 : gm_C p s m args meth c (dC, dI) [(cI, .int)] A gm_T RX11 cX11_talks 13 (some .int) wsX11_talks) {N : Nat} {out : Int32 × Int32 × (Nat → Int32) × (Nat → Int32)} {r71 : (Nat → Int32) → Int64 → Int32 → Int32 → Option (Int32 × Int32 × (Nat → Int32) × (Nat → Int32))} (hr71 : ∀ (m_tongue : Nat → Int32) (x4 : Int64) (x6 : Int32) (x7 : Int32) (H : Heap) (locs : List Loc) (ls : Array Slot), r71 m_tongue x4 x6 x7 = some out → gm_H (dC, dI) A s (wX11_talks cI q q_refused q_tongue q_fresh q_kept q_isKept q_text q_said q_talk m_thrown m_size m_at m_start m_token m_value m_faultAt m_allowed m_firstPair m_secondPair m_above m_below m_refused m_tongue) H locs → lv_has ls 13 [(0, .ref q), (2, .int x2), (3, .int x3), (4, .long x4), (6, .int x6), (7, .int x7)] → W p l e rX11_talks s m args below meth c H locs 0 0 (MQ below (gm_Q (dC, dI) [(cI, .int)] A (some (.int out.1)) (wX11_talks cI q q_refused q_tongue q_fresh q_kept q_isKept q_text q_said q_talk out.2.1 m_size m_at m_start m_token m_value m_faultAt m_allowed m_firstPair m_secondPair m_above m_below out.2.2.1 out.2.2.2)) args s 0 0 A) (F0 m 71 ls [])) {r140 : Int32 → Int32 → Option (Int32 × Int32 × (Nat → Int32) × (Nat → Int32))} (hr140 : ∀ (x10 : Int32) (x11 : Int32) (H : Heap) (locs : List Loc) (ls : Array Slot), r140 x10 x11 = some out → gm_H (dC, dI) A s (wX11_talks cI q q_refused q_tongue q_fresh q_kept q_isKept q_text q_said q_talk m_thrown m_size m_at m_start m_token m_value m_faultAt m_allowed m_firstPair m_secondPair m_above m_below m_refused m_tongue) H locs → lv_has ls 13 [(0, .ref q), (2, .int x2), (3, .int x3), (4, .long x4), (6, .int x6), (7, .int x7), (8, .int x8), (9, .int x9), (10, .int x10), (11, .int x11)] → W p l e rX11_talks s m args below meth c H locs 0 0 (MQ below (gm_Q (dC, dI) [(cI, .int)] A (some (.int out.1)) (wX11_talks cI q q_refused q_tongue q_fresh q_kept q_isKept q_text q_said q_talk out.2.1 m_size m_at m_start m_token m_value m_faultAt m_allowed m_firstPair m_secondPair m_above m_below out.2.2.1 out.2.2.2)) args s 0 0 A) (F0 m 140 ls []))   {H : Heap} {locs : List Loc} {ls : Array Slot} (h : fX11_talks_b170 N r71 r140 m_thrown m_refused m_tongue x2 x3 x4 x6 x7 x8 x9 x10 x11 = some out) (hH : gm_H (dC, dI) A s (wX11_talks cI q q_refused q_tongue q_fresh q_kept q_isKept q_text q_said q_talk m_thrown m_size m_at m_start m_token m_value m_faultAt m_allowed m_firstPair m_secondPair m_above m_below m_refused m_tongue) H locs) (hl : lv_has ls 13 [(0, .ref q), (2, .int x2), (3, .int x3), (4, .long x4), (6, .int x6), (7, .int x7), (8, .int x8), (9, .int x9), (10, .int x10), (11, .int x11)]) : W p l e rX11_talks s m args below meth c H locs 0 0 (MQ below (gm_Q (dC, dI) [(cI, .int)] A (some (.int out.1)) (wX11_talks cI q q_refused q_tongue q_fresh q_kept q_isKept q_text q_said q_talk out.2.1 m_size m_at m_start m_token m_value m_faultAt m_allowed m_firstPair m_secondPair m_above m_below out.2.2.1 out.2.2.2)) args s 0 0 A) (F0 m 170 ls []) := by
  obtain ⟨hx, hb, hml, hr, hown, hts, hA, hK, hX, hlocks⟩ := id C0
  unfold fX11_talks_b170 at h
  refine lv_iconst (v := 0) hx hb dX11_talks_170 (by decide) ?_
  exact tX11_talks_b171 C0 hr71 hr140 h hH (lv_sub hl [0, 1, 2, 3, 4, 5, 6, 7, 8, 9] rfl)
set_option maxRecDepth 100000 in
set_option maxHeartbeats 4000000 in
theorem tX11_talks_b140 {p : Program} {l : Launch} {e : Env} {s : State} {m : MethodId} {args : Array Value} {below : List Frame} {meth : Method} {c : Code} {A : Nat → Prop} {dC : Nat → ClassId} {dI : Nat → Nat → Nat} {cI : ClassId} {q q_refused q_tongue q_fresh q_kept q_isKept q_text q_said q_talk : Nat} {m_thrown : Int32} {m_size : Int32} {m_at : Int32} {m_start : Int32} {m_token : Int32} {m_value : Int64} {m_faultAt : Int32} {m_allowed : Int32} {m_firstPair : Int32} {m_secondPair : Int32} {m_above : Int64} {m_below : Int64} {m_refused : Nat → Int32} {m_tongue : Nat → Int32} {x2 : Int32} {x3 : Int32} {x4 : Int64} {x6 : Int32} {x7 : Int32} {x8 : Int32} {x9 : Int32} (C0 : gm_C p s m args meth c (dC, dI) [(cI, .int)] A gm_T RX11 cX11_talks 13 (some .int) wsX11_talks) {N : Nat} {out : Int32 × Int32 × (Nat → Int32) × (Nat → Int32)} {r71 : (Nat → Int32) → Int64 → Int32 → Int32 → Option (Int32 × Int32 × (Nat → Int32) × (Nat → Int32))} (hr71 : ∀ (m_tongue : Nat → Int32) (x4 : Int64) (x6 : Int32) (x7 : Int32) (H : Heap) (locs : List Loc) (ls : Array Slot), r71 m_tongue x4 x6 x7 = some out → gm_H (dC, dI) A s (wX11_talks cI q q_refused q_tongue q_fresh q_kept q_isKept q_text q_said q_talk m_thrown m_size m_at m_start m_token m_value m_faultAt m_allowed m_firstPair m_secondPair m_above m_below m_refused m_tongue) H locs → lv_has ls 13 [(0, .ref q), (2, .int x2), (3, .int x3), (4, .long x4), (6, .int x6), (7, .int x7)] → W p l e rX11_talks s m args below meth c H locs 0 0 (MQ below (gm_Q (dC, dI) [(cI, .int)] A (some (.int out.1)) (wX11_talks cI q q_refused q_tongue q_fresh q_kept q_isKept q_text q_said q_talk out.2.1 m_size m_at m_start m_token m_value m_faultAt m_allowed m_firstPair m_secondPair m_above m_below out.2.2.1 out.2.2.2)) args s 0 0 A) (F0 m 71 ls []))  : ∀ (n : Nat), ∀ (x10 : Int32) (x11 : Int32) (H : Heap) (locs : List Loc) (ls : Array Slot), (gm_fix (fX11_talks_b140_body N r71 m_thrown m_refused m_tongue x2 x3 x4 x6 x7 x8 x9) (fun _ _ => none) n) x10 x11 = some out → gm_H (dC, dI) A s (wX11_talks cI q q_refused q_tongue q_fresh q_kept q_isKept q_text q_said q_talk m_thrown m_size m_at m_start m_token m_value m_faultAt m_allowed m_firstPair m_secondPair m_above m_below m_refused m_tongue) H locs → lv_has ls 13 [(0, .ref q), (2, .int x2), (3, .int x3), (4, .long x4), (6, .int x6), (7, .int x7), (8, .int x8), (9, .int x9), (10, .int x10), (11, .int x11)] → W p l e rX11_talks s m args below meth c H locs 0 0 (MQ below (gm_Q (dC, dI) [(cI, .int)] A (some (.int out.1)) (wX11_talks cI q q_refused q_tongue q_fresh q_kept q_isKept q_text q_said q_talk out.2.1 m_size m_at m_start m_token m_value m_faultAt m_allowed m_firstPair m_secondPair m_above m_below out.2.2.1 out.2.2.2)) args s 0 0 A) (F0 m 140 ls []) := by
  obtain ⟨hx, hb, hml, hr, hown, hts, hA, hK, hX, hlocks⟩ := id C0
  intro n
  induction n with
  | zero =>
    intro x10 x11 H locs ls h hH hl
    cases h
  | succ n hr140 =>
    intro x10 x11 H locs ls h hH hl
    rw [gm_fix_s] at h
    unfold fX11_talks_b140_body at h
    refine lv_iload hx hb dX11_talks_140 (lv_at hl 9 rfl) ?_
    refine lv_if_lt (tgt := 218) hx hb dX11_talks_142 (by decide) (fun hc26 => ?_) (fun hc26 => ?_)
    · replace h := gm_pos hc26 h
      exact tX11_talks_b218 C0 hr71 h hH (lv_sub hl [0, 1, 2, 3, 4, 5, 8] rfl)
    · replace h := gm_neg hc26 h
      refine lv_iload hx hb dX11_talks_145 (lv_at hl 8 rfl) ?_
      refine lv_iconst (v := (-1)) hx hb dX11_talks_147 (by decide) ?_
      refine lv_icmp_eq (tgt := 170) hx hb dX11_talks_148 (by decide) (fun hc32 => ?_) (fun hc32 => ?_)
      · replace h := gm_pos hc32 h
        exact tX11_talks_b170 C0 hr71 hr140 h hH (lv_sub hl [0, 1, 2, 3, 4, 5, 6, 7, 8, 9] rfl)
      · replace h := gm_neg hc32 h
        refine lv_aload_n hx hb dX11_talks_151 rfl (lv_at hl 0 rfl) ?_
        refine lv_iload hx hb dX11_talks_152 (lv_at hl 8 rfl) ?_
        obtain ⟨o39, ho39, h⟩ := gm_bind_e h
        refine gm_callV (As := [.int x10]) (rest := []) (n := 1) (ci := 11) (q0 := 0) C0 hH (mX11_meaning l dC dI cI q q_tongue q_refused q_fresh q_kept q_isKept q_text q_said q_talk m_thrown m_size m_at m_start m_token m_value m_faultAt m_allowed m_firstPair m_secondPair m_above m_below m_tongue x10   ho39) gX11_talks_X11_meaning rfl (by decide +kernel) ⟨rfl, rfl, Nat.le_of_ble_eq_true rfl, Nat.le_of_ble_eq_true rfl⟩ gm_T_ok (fun _ => trivial) [0, 2] rfl rfl rfl [0] rfl rfl rfl rfl hl.1 rfl (Nat.le_of_ble_eq_true rfl) dX11_talks_154 ⟨Nat.zero_le _, Nat.zero_le _⟩ (fun H locs hH => ?_)
        have hH : gm_H (dC, dI) A s (wX11_talks cI q q_refused q_tongue q_fresh q_kept q_isKept q_text q_said q_talk m_thrown m_size m_at m_start m_token m_value m_faultAt m_allowed m_firstPair m_secondPair m_above m_below m_refused m_tongue) H locs := hH
        refine lv_aload_n hx hb dX11_talks_157 rfl (lv_at hl 0 rfl) ?_
        refine lv_iload hx hb dX11_talks_158 (lv_at hl 6 rfl) ?_
        obtain ⟨o40, ho40, h⟩ := gm_bind_e h
        refine gm_callV (As := [.int x8]) (rest := [.int o39]) (n := 1) (ci := 11) (q0 := 0) C0 hH (mX11_want l dC dI cI q q_tongue q_refused q_fresh q_kept q_isKept q_text q_said q_talk m_thrown m_size m_at m_start m_token m_value m_faultAt m_allowed m_firstPair m_secondPair m_above m_below m_tongue x8   ho40) gX11_talks_X11_want rfl (by decide +kernel) ⟨rfl, rfl, Nat.le_of_ble_eq_true rfl, Nat.le_of_ble_eq_true rfl⟩ gm_T_ok (fun _ => trivial) [0, 2] rfl rfl rfl [0] rfl rfl rfl rfl hl.1 rfl (Nat.le_of_ble_eq_true rfl) dX11_talks_160 ⟨Nat.zero_le _, Nat.zero_le _⟩ (fun H locs hH => ?_)
        have hH : gm_H (dC, dI) A s (wX11_talks cI q q_refused q_tongue q_fresh q_kept q_isKept q_text q_said q_talk m_thrown m_size m_at m_start m_token m_value m_faultAt m_allowed m_firstPair m_secondPair m_above m_below m_refused m_tongue) H locs := hH
        refine lv_icmp_ne (tgt := 170) hx hb dX11_talks_163 (by decide) (fun hc41 => ?_) (fun hc41 => ?_)
        · replace h := gm_neg hc41 h
          exact tX11_talks_b170 C0 hr71 hr140 h hH (lv_sub hl [0, 1, 2, 3, 4, 5, 6, 7, 8, 9] rfl)
        · replace h := gm_pos hc41 h
          refine lv_iconst (v := 1) hx hb dX11_talks_166 (by decide) ?_
          refine lv_goto (tgt := 171) hx hb dX11_talks_167 (by decide) ?_
          exact tX11_talks_b171 C0 hr71 hr140 h hH (lv_sub hl [0, 1, 2, 3, 4, 5, 6, 7, 8, 9] rfl)
set_option maxRecDepth 100000 in
set_option maxHeartbeats 4000000 in
theorem tX11_talks_b71 {p : Program} {l : Launch} {e : Env} {s : State} {m : MethodId} {args : Array Value} {below : List Frame} {meth : Method} {c : Code} {A : Nat → Prop} {dC : Nat → ClassId} {dI : Nat → Nat → Nat} {cI : ClassId} {q q_refused q_tongue q_fresh q_kept q_isKept q_text q_said q_talk : Nat} {m_thrown : Int32} {m_size : Int32} {m_at : Int32} {m_start : Int32} {m_token : Int32} {m_value : Int64} {m_faultAt : Int32} {m_allowed : Int32} {m_firstPair : Int32} {m_secondPair : Int32} {m_above : Int64} {m_below : Int64} {m_refused : Nat → Int32} {x2 : Int32} {x3 : Int32} (C0 : gm_C p s m args meth c (dC, dI) [(cI, .int)] A gm_T RX11 cX11_talks 13 (some .int) wsX11_talks) {N : Nat} {out : Int32 × Int32 × (Nat → Int32) × (Nat → Int32)}   : ∀ (n : Nat), ∀ (m_tongue : Nat → Int32) (x4 : Int64) (x6 : Int32) (x7 : Int32) (H : Heap) (locs : List Loc) (ls : Array Slot), (gm_fix (fX11_talks_b71_body N  m_thrown m_refused x2 x3) (fun _ _ _ _ => none) n) m_tongue x4 x6 x7 = some out → gm_H (dC, dI) A s (wX11_talks cI q q_refused q_tongue q_fresh q_kept q_isKept q_text q_said q_talk m_thrown m_size m_at m_start m_token m_value m_faultAt m_allowed m_firstPair m_secondPair m_above m_below m_refused m_tongue) H locs → lv_has ls 13 [(0, .ref q), (2, .int x2), (3, .int x3), (4, .long x4), (6, .int x6), (7, .int x7)] → W p l e rX11_talks s m args below meth c H locs 0 0 (MQ below (gm_Q (dC, dI) [(cI, .int)] A (some (.int out.1)) (wX11_talks cI q q_refused q_tongue q_fresh q_kept q_isKept q_text q_said q_talk out.2.1 m_size m_at m_start m_token m_value m_faultAt m_allowed m_firstPair m_secondPair m_above m_below out.2.2.1 out.2.2.2)) args s 0 0 A) (F0 m 71 ls []) := by
  obtain ⟨hx, hb, hml, hr, hown, hts, hA, hK, hX, hlocks⟩ := id C0
  intro n
  induction n with
  | zero =>
    intro m_tongue x4 x6 x7 H locs ls h hH hl
    cases h
  | succ n hr71 =>
    intro m_tongue x4 x6 x7 H locs ls h hH hl
    rw [gm_fix_s] at h
    unfold fX11_talks_b71_body at h
    refine lv_iload hx hb dX11_talks_71 (lv_at hl 5 rfl) ?_
    refine lv_iload_n hx hb dX11_talks_73 rfl (lv_at hl 1 rfl) ?_
    refine lv_icmp_ge (tgt := 267) hx hb dX11_talks_74 (by decide) (fun hc13 => ?_) (fun hc13 => ?_)
    · replace h := gm_pos hc13 h
      exact tX11_talks_b267 C0  h hH (lv_sub hl [0, 2, 4] rfl)
    · replace h := gm_neg hc13 h
      refine lv_lload hx hb dX11_talks_77 (lv_at hl 3 rfl) ?_
      refine lv_ldc2 (own := RX11) (v := 1103515245) hx hb hown (gm_at C0 5 rfl) dX11_talks_79 ?_
      refine lv_lmul hx hb dX11_talks_82 ?_
      refine lv_ldc2 (own := RX11) (v := 12345) hx hb hown (gm_at C0 6 rfl) dX11_talks_83 ?_
      refine lv_ladd hx hb dX11_talks_86 ?_
      refine lv_ldc2 (own := RX11) (v := 2147483648) hx hb hown (gm_at C0 7 rfl) dX11_talks_87 ?_
      obtain ⟨hz15, h⟩ := gm_nzL_e h
      refine lv_lrem hx hb dX11_talks_90 hz15 ?_
      refine lv_topl (fun v16 ev16 => ?_)
      replace h := gm_let_e ev16 h
      refine lv_lstore (lv' := [(4, .long v16), (0, .ref q), (2, .int x2), (3, .int x3), (6, .int x6), (7, .int x7)]) hx hb dX11_talks_91 hl (by decide) rfl (fun ls hl => ?_)
      refine lv_iload hx hb dX11_talks_93 (lv_at hl 5 rfl) ?_
      refine lv_aload_n hx hb dX11_talks_95 rfl (lv_at hl 1 rfl) ?_
      refine gm_get (ci := 11) C0 hH inX11_talks_X11 0 2 4 rfl rfl (by decide) rfl rfl dX11_talks_96 ?_
      refine lv_iconst (v := 1) hx hb dX11_talks_99 (by decide) ?_
      obtain ⟨hi17, h⟩ := gm_chk_e h
      refine gm_iald C0 hH hi17 2 0 rfl rfl dX11_talks_100 ?_
      obtain ⟨hz18, h⟩ := gm_nz_e h
      refine lv_irem hx hb dX11_talks_101 hz18 ?_
      refine lv_topi (fun v19 ev19 => ?_)
      replace h := gm_let_e ev19 h
      refine lv_istore (lv' := [(8, .int v19), (4, .long v16), (0, .ref q), (2, .int x2), (3, .int x3), (6, .int x6), (7, .int x7)]) hx hb dX11_talks_102 hl (by decide) rfl (fun ls hl => ?_)
      refine lv_aload_n hx hb dX11_talks_104 rfl (lv_at hl 2 rfl) ?_
      refine lv_iload hx hb dX11_talks_105 (lv_at hl 0 rfl) ?_
      refine lv_lload hx hb dX11_talks_107 (lv_at hl 1 rfl) ?_
      refine lv_ldc2 (own := RX11) (v := 65536) hx hb hown (gm_at C0 8 rfl) dX11_talks_109 ?_
      obtain ⟨hz20, h⟩ := gm_nzL_e h
      refine lv_ldiv hx hb dX11_talks_112 hz20 ?_
      refine lv_aload_n hx hb dX11_talks_113 rfl (lv_at hl 2 rfl) ?_
      refine gm_get (ci := 11) C0 hH inX11_talks_X11 0 2 4 rfl rfl (by decide) rfl rfl dX11_talks_114 ?_
      refine lv_iconst (v := 0) hx hb dX11_talks_117 (by decide) ?_
      obtain ⟨hi21, h⟩ := gm_chk_e h
      refine gm_iald C0 hH hi21 2 0 rfl rfl dX11_talks_118 ?_
      refine lv_i2l hx hb dX11_talks_119 rfl ?_
      obtain ⟨hz22, h⟩ := gm_nzL_e h
      refine lv_lrem hx hb dX11_talks_120 hz22 ?_
      refine lv_l2i hx hb dX11_talks_121 rfl ?_
      obtain ⟨o23, ho23, h⟩ := gm_bind_e h
      refine gm_callV (As := [.int v19, .int (Int64.toInt32 ((v16 / 65536) - (v16 / 65536) / (Int32.toInt64 (m_tongue (Int32.toNatClampNeg 0))) * (Int32.toInt64 (m_tongue (Int32.toNatClampNeg 0)))))]) (rest := []) (n := 2) (ci := 11) (q0 := 0) C0 hH (mX11_answersTo l dC dI cI q q_tongue q_refused q_fresh q_kept q_isKept q_text q_said q_talk m_thrown m_size m_at m_start m_token m_value m_faultAt m_allowed m_firstPair m_secondPair m_above m_below m_tongue v19 ((Int64.toInt32 ((v16 / 65536) - (v16 / 65536) / (Int32.toInt64 (m_tongue (Int32.toNatClampNeg 0))) * (Int32.toInt64 (m_tongue (Int32.toNatClampNeg 0))))))   ho23) gX11_talks_X11_answersTo rfl (by decide +kernel) ⟨rfl, rfl, Nat.le_of_ble_eq_true rfl, Nat.le_of_ble_eq_true rfl⟩ gm_T_ok (fun _ => trivial) [0, 2] rfl rfl rfl [0] rfl rfl rfl rfl hl.1 rfl (Nat.le_of_ble_eq_true rfl) dX11_talks_122 ⟨Nat.zero_le _, Nat.zero_le _⟩ (fun H locs hH => ?_)
      have hH : gm_H (dC, dI) A s (wX11_talks cI q q_refused q_tongue q_fresh q_kept q_isKept q_text q_said q_talk m_thrown m_size m_at m_start m_token m_value m_faultAt m_allowed m_firstPair m_secondPair m_above m_below m_refused m_tongue) H locs := hH
      refine lv_istore (lv' := [(9, .int o23), (8, .int v19), (4, .long v16), (0, .ref q), (2, .int x2), (3, .int x3), (6, .int x6), (7, .int x7)]) hx hb dX11_talks_125 hl (by decide) rfl (fun ls hl => ?_)
      refine lv_iconst (v := (-1)) hx hb dX11_talks_127 (by decide) ?_
      refine lv_istore (lv' := [(10, .int (-1)), (9, .int o23), (8, .int v19), (4, .long v16), (0, .ref q), (2, .int x2), (3, .int x3), (6, .int x6), (7, .int x7)]) hx hb dX11_talks_128 hl (by decide) rfl (fun ls hl => ?_)
      refine lv_aload_n hx hb dX11_talks_130 rfl (lv_at hl 4 rfl) ?_
      refine gm_get (ci := 11) C0 hH inX11_talks_X11 0 2 4 rfl rfl (by decide) rfl rfl dX11_talks_131 ?_
      refine lv_iconst (v := 0) hx hb dX11_talks_134 (by decide) ?_
      obtain ⟨hi24, h⟩ := gm_chk_e h
      refine gm_iald C0 hH hi24 2 0 rfl rfl dX11_talks_135 ?_
      refine lv_iconst (v := 1) hx hb dX11_talks_136 (by decide) ?_
      refine lv_isub hx hb dX11_talks_137 ?_
      refine lv_topi (fun v25 ev25 => ?_)
      replace h := gm_let_e ev25 h
      refine lv_istore (lv' := [(11, .int v25), (10, .int (-1)), (9, .int o23), (8, .int v19), (4, .long v16), (0, .ref q), (2, .int x2), (3, .int x3), (6, .int x6), (7, .int x7)]) hx hb dX11_talks_138 hl (by decide) rfl (fun ls hl => ?_)
      unfold fX11_talks_b140 at h
      exact tX11_talks_b140 C0 hr71 _ _ _ _ _ _ h hH (lv_sub hl [5, 6, 7, 4, 8, 9, 3, 2, 1, 0] rfl)
set_option maxRecDepth 100000 in
set_option maxHeartbeats 4000000 in
theorem mX11_talks (l : Launch) (dC : Nat → ClassId) (dI : Nat → Nat → Nat) (cI : ClassId) (q q_refused q_tongue q_fresh q_kept q_isKept q_text q_said q_talk : Nat) (m_thrown : Int32) (m_size : Int32) (m_at : Int32) (m_start : Int32) (m_token : Int32) (m_value : Int64) (m_faultAt : Int32) (m_allowed : Int32) (m_firstPair : Int32) (m_secondPair : Int32) (m_above : Int64) (m_below : Int64) (m_refused : Nat → Int32) (m_tongue : Nat → Int32) (x1 : Int32) (x2 : Int32)  {N : Nat} {out : Int32 × Int32 × (Nat → Int32) × (Nat → Int32)} (h : fX11_talks N m_thrown m_refused m_tongue x1 x2 = some out) : gm_Met l yX11_talks wsX11_talks rX11_talks (dC, dI) [(cI, .int)] gm_T [.ref q, .int x1, .int x2] (wX11_talks cI q q_refused q_tongue q_fresh q_kept q_isKept q_text q_said q_talk m_thrown m_size m_at m_start m_token m_value m_faultAt m_allowed m_firstPair m_secondPair m_above m_below m_refused m_tongue) (some (.int out.1)) (wX11_talks cI q q_refused q_tongue q_fresh q_kept q_isKept q_text q_said q_talk out.2.1 m_size m_at m_start m_token m_value m_faultAt m_allowed m_firstPair m_secondPair m_above m_below out.2.2.1 out.2.2.2) := by
  refine gm_ofW (cc := cX11_talks) (maxL := 13) (ret := (some .int)) (by decide +kernel) rfl (Nat.le_of_ble_eq_true rfl) ?_
  intro p e s m below meth c A C0 hH ls hl
  generalize ([.ref q, .int x1, .int x2] : List Value).toArray = args at C0 ⊢
  have hl : lv_has ls 13 [(0, .ref q), (1, .int x1), (2, .int x2)] := hl
  generalize s.heap = H at hH ⊢
  generalize ([] : List Loc) = locs at hH ⊢
  obtain ⟨hx, hb, hml, hr, hown, hts, hA, hK, hX, hlocks⟩ := id C0
  unfold fX11_talks at h
  refine lv_aload_n hx hb dX11_talks_0 rfl (lv_at hl 0 rfl) ?_
  refine lv_iconst (v := 0) hx hb dX11_talks_1 (by decide) ?_
  refine gm_putf (ci := 11) C0 hH inX11_talks_X11 tyX11_ok nmX11 0 0 1 rfl rfl (by decide) rfl rfl rfl rfl rfl (Nat.le_of_ble_eq_true rfl) dX11_talks_2 (fun H locs hH => ?_)
  have hH : gm_H (dC, dI) A s (wX11_talks cI q q_refused q_tongue q_fresh q_kept q_isKept q_text q_said q_talk 0 m_size m_at m_start m_token m_value m_faultAt m_allowed m_firstPair m_secondPair m_above m_below m_refused m_tongue) H locs := hH
  refine lv_iload_n hx hb dX11_talks_5 rfl (lv_at hl 1 rfl) ?_
  refine lv_i2l hx hb dX11_talks_6 rfl ?_
  refine lv_lconst (v := 0) hx hb dX11_talks_7 (by decide) ?_
  refine lv_ldc2 (own := RX11) (v := 999999) hx hb hown (gm_at C0 2 rfl) dX11_talks_8 ?_
  obtain ⟨o1, ho1, h⟩ := gm_bind_e h
  refine gm_callS (As := [.long (Int32.toInt64 x1), .long 0, .long 999999]) (rest := []) (n := 3) C0 hH (mX11_in l dC dI    ((Int32.toInt64 x1)) 0 999999   ho1) gX11_talks_X11_in rfl (by decide +kernel) ⟨rfl, rfl, Nat.le_of_ble_eq_true rfl, Nat.le_of_ble_eq_true rfl⟩ gm_T_ok (fun _ => trivial) [] rfl rfl rfl [] rfl rfl hl.1 rfl (Nat.le_of_ble_eq_true rfl) dX11_talks_11 ⟨Nat.zero_le _, Nat.zero_le _⟩ (fun H locs hH => ?_)
  have hH : gm_H (dC, dI) A s (wX11_talks cI q q_refused q_tongue q_fresh q_kept q_isKept q_text q_said q_talk 0 m_size m_at m_start m_token m_value m_faultAt m_allowed m_firstPair m_secondPair m_above m_below m_refused m_tongue) H locs := hH
  refine lv_if_eq (tgt := 29) hx hb dX11_talks_14 (by decide) (fun hc2 => ?_) (fun hc2 => ?_)
  · replace h := gm_pos hc2 h
    exact tX11_talks_b29 C0  h hH (lv_sub hl [0] rfl)
  · replace h := gm_neg hc2 h
    refine lv_iload_n hx hb dX11_talks_17 rfl (lv_at hl 2 rfl) ?_
    refine lv_i2l hx hb dX11_talks_18 rfl ?_
    refine lv_lconst (v := 0) hx hb dX11_talks_19 (by decide) ?_
    refine lv_ldc2 (own := RX11) (v := 60) hx hb hown (gm_at C0 3 rfl) dX11_talks_20 ?_
    obtain ⟨o4, ho4, h⟩ := gm_bind_e h
    refine gm_callS (As := [.long (Int32.toInt64 x2), .long 0, .long 60]) (rest := []) (n := 3) C0 hH (mX11_in l dC dI    ((Int32.toInt64 x2)) 0 60   ho4) gX11_talks_X11_in rfl (by decide +kernel) ⟨rfl, rfl, Nat.le_of_ble_eq_true rfl, Nat.le_of_ble_eq_true rfl⟩ gm_T_ok (fun _ => trivial) [] rfl rfl rfl [] rfl rfl hl.1 rfl (Nat.le_of_ble_eq_true rfl) dX11_talks_23 ⟨Nat.zero_le _, Nat.zero_le _⟩ (fun H locs hH => ?_)
    have hH : gm_H (dC, dI) A s (wX11_talks cI q q_refused q_tongue q_fresh q_kept q_isKept q_text q_said q_talk 0 m_size m_at m_start m_token m_value m_faultAt m_allowed m_firstPair m_secondPair m_above m_below m_refused m_tongue) H locs := hH
    refine lv_if_ne (tgt := 34) hx hb dX11_talks_26 (by decide) (fun hc5 => ?_) (fun hc5 => ?_)
    · replace h := gm_neg hc5 h
      refine lv_aload_n hx hb dX11_talks_34 rfl (lv_at hl 0 rfl) ?_
      refine gm_get (ci := 11) C0 hH inX11_talks_X11 0 2 4 rfl rfl (by decide) rfl rfl dX11_talks_35 ?_
      refine lv_iconst (v := 0) hx hb dX11_talks_38 (by decide) ?_
      obtain ⟨hi6, h⟩ := gm_chk_e h
      refine gm_iald C0 hH hi6 2 0 rfl rfl dX11_talks_39 ?_
      refine lv_if_eq (tgt := 52) hx hb dX11_talks_40 (by decide) (fun hc7 => ?_) (fun hc7 => ?_)
      · replace h := gm_pos hc7 h
        refine lv_iconst (v := (-1)) hx hb dX11_talks_52 (by decide) ?_
        obtain rfl := Option.some.inj h
        exact gm_iret C0 hH dX11_talks_53
      · replace h := gm_neg hc7 h
        refine lv_aload_n hx hb dX11_talks_43 rfl (lv_at hl 0 rfl) ?_
        refine gm_get (ci := 11) C0 hH inX11_talks_X11 0 2 4 rfl rfl (by decide) rfl rfl dX11_talks_44 ?_
        refine lv_iconst (v := 1) hx hb dX11_talks_47 (by decide) ?_
        obtain ⟨hi8, h⟩ := gm_chk_e h
        refine gm_iald C0 hH hi8 2 0 rfl rfl dX11_talks_48 ?_
        refine lv_if_ne (tgt := 54) hx hb dX11_talks_49 (by decide) (fun hc9 => ?_) (fun hc9 => ?_)
        · replace h := gm_neg hc9 h
          refine lv_aload_n hx hb dX11_talks_54 rfl (lv_at hl 0 rfl) ?_
          refine gm_get (ci := 11) C0 hH inX11_talks_X11 0 2 4 rfl rfl (by decide) rfl rfl dX11_talks_55 ?_
          refine lv_iconst (v := 2) hx hb dX11_talks_58 (by decide) ?_
          obtain ⟨hi10, h⟩ := gm_chk_e h
          refine gm_iald C0 hH hi10 2 0 rfl rfl dX11_talks_59 ?_
          refine lv_topi (fun v11 ev11 => ?_)
          replace h := gm_let_e ev11 h
          refine lv_istore_n (lv' := [(3, .int v11), (0, .ref q), (1, .int x1), (2, .int x2)]) hx hb dX11_talks_60 rfl hl (by decide) rfl (fun ls hl => ?_)
          refine lv_iload_n hx hb dX11_talks_61 rfl (lv_at hl 2 rfl) ?_
          refine lv_i2l hx hb dX11_talks_62 rfl ?_
          refine lv_topl (fun v12 ev12 => ?_)
          replace h := gm_let_e ev12 h
          refine lv_lstore (lv' := [(4, .long v12), (3, .int v11), (0, .ref q), (1, .int x1), (2, .int x2)]) hx hb dX11_talks_63 hl (by decide) rfl (fun ls hl => ?_)
          refine lv_iconst (v := 0) hx hb dX11_talks_65 (by decide) ?_
          refine lv_istore (lv' := [(6, .int 0), (4, .long v12), (3, .int v11), (0, .ref q), (1, .int x1), (2, .int x2)]) hx hb dX11_talks_66 hl (by decide) rfl (fun ls hl => ?_)
          refine lv_iconst (v := 0) hx hb dX11_talks_68 (by decide) ?_
          refine lv_istore (lv' := [(7, .int 0), (6, .int 0), (4, .long v12), (3, .int v11), (0, .ref q), (1, .int x1), (2, .int x2)]) hx hb dX11_talks_69 hl (by decide) rfl (fun ls hl => ?_)
          unfold fX11_talks_b71 at h
          exact tX11_talks_b71 C0  _ _ _ _ _ _ _ _ h hH (lv_sub hl [4, 6, 3, 2, 1, 0] rfl)
        · replace h := gm_pos hc9 h
          refine lv_iconst (v := (-1)) hx hb dX11_talks_52 (by decide) ?_
          obtain rfl := Option.some.inj h
          exact gm_iret C0 hH dX11_talks_53
    · replace h := gm_pos hc5 h
      exact tX11_talks_b29 C0  h hH (lv_sub hl [0] rfl)

/-! X11_part -/
abbrev wX11_part (cI : ClassId) (q q_refused q_tongue q_fresh q_kept q_isKept q_text q_said q_talk : Nat) (m_thrown : Int32) (m_size : Int32) (m_at : Int32) (m_start : Int32) (m_token : Int32) (m_value : Int64) (m_faultAt : Int32) (m_allowed : Int32) (m_firstPair : Int32) (m_secondPair : Int32) (m_above : Int64) (m_below : Int64) (m_refused : Nat → Int32) : va_W := [(q, .inr (11, [.int m_thrown, .ref q_refused, .ref q_tongue, .ref q_fresh, .ref q_kept, .ref q_isKept, .ref q_text, .int m_size, .int m_at, .int m_start, .int m_token, .long m_value, .int m_faultAt, .ref q_said, .ref q_talk, .int m_allowed, .int m_firstPair, .int m_secondPair, .long m_above, .long m_below])), (q_refused, .inl (cI, 3, .inl m_refused))]
abbrev rX11_part : Room := { frames := 2, cells := 0, slots := 0, locals := 42 }
def fX11_part (N : Nat) (m_thrown : Int32) (m_above : Int64) (m_below : Int64) (m_refused : Nat → Int32) (x1 : Int32) : Option (Int64 × Int32 × (Nat → Int32)) := (if x1 = 0 then some (m_above, 0, m_refused) else (if x1 = 1 then some (m_below, 0, m_refused) else gm_bind (fX11_bad N m_refused) (fun o3 => some ((Int32.toInt64 o3.1), 0, o3.2))))
set_option maxRecDepth 20000 in
theorem inX11_part_X11 : ∀ w ∈ u_ws RX11 TX11 20, w ∈ wsX11_part := fun w h => by
  obtain ⟨k, hk, rfl⟩ := List.mem_map.mp h
  have hk2 := List.mem_range.mp hk
  exact List.mem_of_getElem? (i := 14 + k) (by rcases (show k = 0 ∨ k = 1 ∨ k = 2 ∨ k = 3 ∨ k = 4 ∨ k = 5 ∨ k = 6 ∨ k = 7 ∨ k = 8 ∨ k = 9 ∨ k = 10 ∨ k = 11 ∨ k = 12 ∨ k = 13 ∨ k = 14 ∨ k = 15 ∨ k = 16 ∨ k = 17 ∨ k = 18 ∨ k = 19 by omega) with rfl | rfl | rfl | rfl | rfl | rfl | rfl | rfl | rfl | rfl | rfl | rfl | rfl | rfl | rfl | rfl | rfl | rfl | rfl | rfl <;> rfl)
set_option maxRecDepth 100000 in
set_option maxHeartbeats 4000000 in
theorem mX11_part (l : Launch) (dC : Nat → ClassId) (dI : Nat → Nat → Nat) (cI : ClassId) (q q_refused q_tongue q_fresh q_kept q_isKept q_text q_said q_talk : Nat) (m_thrown : Int32) (m_size : Int32) (m_at : Int32) (m_start : Int32) (m_token : Int32) (m_value : Int64) (m_faultAt : Int32) (m_allowed : Int32) (m_firstPair : Int32) (m_secondPair : Int32) (m_above : Int64) (m_below : Int64) (m_refused : Nat → Int32) (x1 : Int32)  {N : Nat} {out : Int64 × Int32 × (Nat → Int32)} (h : fX11_part N m_thrown m_above m_below m_refused x1 = some out) : gm_Met l yX11_part wsX11_part rX11_part (dC, dI) [(cI, .int)] gm_T [.ref q, .int x1] (wX11_part cI q q_refused q_tongue q_fresh q_kept q_isKept q_text q_said q_talk m_thrown m_size m_at m_start m_token m_value m_faultAt m_allowed m_firstPair m_secondPair m_above m_below m_refused) (some (.long out.1)) (wX11_part cI q q_refused q_tongue q_fresh q_kept q_isKept q_text q_said q_talk out.2.1 m_size m_at m_start m_token m_value m_faultAt m_allowed m_firstPair m_secondPair m_above m_below out.2.2) := by
  refine gm_ofW (cc := cX11_part) (maxL := 2) (ret := (some .long)) (by decide +kernel) rfl (Nat.le_of_ble_eq_true rfl) ?_
  intro p e s m below meth c A C0 hH ls hl
  generalize ([.ref q, .int x1] : List Value).toArray = args at C0 ⊢
  have hl : lv_has ls 2 [(0, .ref q), (1, .int x1)] := hl
  generalize s.heap = H at hH ⊢
  generalize ([] : List Loc) = locs at hH ⊢
  obtain ⟨hx, hb, hml, hr, hown, hts, hA, hK, hX, hlocks⟩ := id C0
  unfold fX11_part at h
  refine lv_aload_n hx hb dX11_part_0 rfl (lv_at hl 0 rfl) ?_
  refine lv_iconst (v := 0) hx hb dX11_part_1 (by decide) ?_
  refine gm_putf (ci := 11) C0 hH inX11_part_X11 tyX11_ok nmX11 0 0 1 rfl rfl (by decide) rfl rfl rfl rfl rfl (Nat.le_of_ble_eq_true rfl) dX11_part_2 (fun H locs hH => ?_)
  have hH : gm_H (dC, dI) A s (wX11_part cI q q_refused q_tongue q_fresh q_kept q_isKept q_text q_said q_talk 0 m_size m_at m_start m_token m_value m_faultAt m_allowed m_firstPair m_secondPair m_above m_below m_refused) H locs := hH
  refine lv_iload_n hx hb dX11_part_5 rfl (lv_at hl 1 rfl) ?_
  refine lv_if_ne (tgt := 16) hx hb dX11_part_6 (by decide) (fun hc1 => ?_) (fun hc1 => ?_)
  · replace h := gm_neg hc1 h
    refine lv_iload_n hx hb dX11_part_16 rfl (lv_at hl 1 rfl) ?_
    refine lv_iconst (v := 1) hx hb dX11_part_17 (by decide) ?_
    refine lv_icmp_ne (tgt := 28) hx hb dX11_part_18 (by decide) (fun hc2 => ?_) (fun hc2 => ?_)
    · replace h := gm_neg hc2 h
      refine lv_aload_n hx hb dX11_part_28 rfl (lv_at hl 0 rfl) ?_
      obtain ⟨o3, ho3, h⟩ := gm_bind_e h
      refine gm_callV (As := []) (rest := []) (n := 0) (ci := 11) (q0 := 0) C0 hH (mX11_bad l dC dI cI q q_refused q_tongue q_fresh q_kept q_isKept q_text q_said q_talk 0 m_size m_at m_start m_token m_value m_faultAt m_allowed m_firstPair m_secondPair m_above m_below m_refused    ho3) gX11_part_X11_bad rfl (by decide +kernel) ⟨rfl, rfl, Nat.le_of_ble_eq_true rfl, Nat.le_of_ble_eq_true rfl⟩ gm_T_ok (fun _ => trivial) [0, 1] rfl rfl rfl [0] rfl rfl rfl rfl hl.1 rfl (Nat.le_of_ble_eq_true rfl) dX11_part_29 ⟨Nat.zero_le _, Nat.zero_le _⟩ (fun H locs hH => ?_)
      have hH : gm_H (dC, dI) A s (wX11_part cI q q_refused q_tongue q_fresh q_kept q_isKept q_text q_said q_talk 0 m_size m_at m_start m_token m_value m_faultAt m_allowed m_firstPair m_secondPair m_above m_below o3.2) H locs := hH
      refine lv_i2l hx hb dX11_part_32 rfl ?_
      obtain rfl := Option.some.inj h
      exact gm_lret C0 hH dX11_part_33
    · replace h := gm_pos hc2 h
      refine lv_aload_n hx hb dX11_part_21 rfl (lv_at hl 0 rfl) ?_
      refine gm_get (ci := 11) C0 hH inX11_part_X11 0 19 3 rfl rfl (by decide) rfl rfl dX11_part_22 ?_
      refine lv_goto (tgt := 33) hx hb dX11_part_25 (by decide) ?_
      obtain rfl := Option.some.inj h
      exact gm_lret C0 hH dX11_part_33
  · replace h := gm_pos hc1 h
    refine lv_aload_n hx hb dX11_part_9 rfl (lv_at hl 0 rfl) ?_
    refine gm_get (ci := 11) C0 hH inX11_part_X11 0 18 2 rfl rfl (by decide) rfl rfl dX11_part_10 ?_
    refine lv_goto (tgt := 33) hx hb dX11_part_13 (by decide) ?_
    obtain rfl := Option.some.inj h
    exact gm_lret C0 hH dX11_part_33

/-! X11_image -/
abbrev wX11_image (cI cZ : ClassId) (q q_refused q_tongue q_kept q_isKept q_fresh q_text q_said q_talk : Nat) (m_thrown : Int32) (m_size : Int32) (m_at : Int32) (m_start : Int32) (m_token : Int32) (m_value : Int64) (m_faultAt : Int32) (m_allowed : Int32) (m_firstPair : Int32) (m_secondPair : Int32) (m_above : Int64) (m_below : Int64) (m_refused : Nat → Int32) (m_tongue : Nat → Int32) (m_kept : Nat → Int32) (m_isKept : Nat → Int32) : va_W := [(q, .inr (11, [.int m_thrown, .ref q_refused, .ref q_tongue, .ref q_fresh, .ref q_kept, .ref q_isKept, .ref q_text, .int m_size, .int m_at, .int m_start, .int m_token, .long m_value, .int m_faultAt, .ref q_said, .ref q_talk, .int m_allowed, .int m_firstPair, .int m_secondPair, .long m_above, .long m_below])), (q_refused, .inl (cI, 3, .inl m_refused)), (q_tongue, .inl (cI, 73, .inl m_tongue)), (q_kept, .inl (cI, 146, .inl m_kept)), (q_isKept, .inl (cZ, 2, .inl m_isKept))]
abbrev rX11_image : Room := { frames := 2, cells := 0, slots := 0, locals := 42 }
def fX11_image_b51 (N : Nat)  (m_thrown : Int32) (m_refused : Nat → Int32) (m_kept : Nat → Int32) (m_isKept : Nat → Int32) (x1 : Int32) : Option (Int32 × Int32 × (Nat → Int32) × (Nat → Int32) × (Nat → Int32)) := gm_chk x1 2 (some (1, m_thrown, m_refused, m_kept, upd m_isKept (Int32.toNatClampNeg x1) (vp_nar .boolean 1)))
def fX11_image_b22_body (N : Nat)  (m_thrown : Int32) (m_refused : Nat → Int32) (m_tongue : Nat → Int32) (m_isKept : Nat → Int32) (x1 : Int32) (r22 : (Nat → Int32) → Int32 → Option (Int32 × Int32 × (Nat → Int32) × (Nat → Int32) × (Nat → Int32))) (m_kept : Nat → Int32) (x2 : Int32) : Option (Int32 × Int32 × (Nat → Int32) × (Nat → Int32) × (Nat → Int32)) := (if 73 ≤ x2 then (fX11_image_b51 N  m_thrown m_refused m_kept m_isKept x1) else gm_chk x2 73 (gm_chk (((73 * x1) + x2)) 146 ((r22 (upd m_kept (Int32.toNatClampNeg (((73 * x1) + x2))) ((m_tongue (Int32.toNatClampNeg x2)))) ((x2 + 1))))))
def fX11_image_b22 (N : Nat)  (m_thrown : Int32) (m_refused : Nat → Int32) (m_tongue : Nat → Int32) (m_isKept : Nat → Int32) (x1 : Int32) (m_kept : Nat → Int32) (x2 : Int32) : Option (Int32 × Int32 × (Nat → Int32) × (Nat → Int32) × (Nat → Int32)) := gm_fix (fX11_image_b22_body N  m_thrown m_refused m_tongue m_isKept x1) (fun _ _ => none) N m_kept x2
def fX11_image (N : Nat) (m_thrown : Int32) (m_refused : Nat → Int32) (m_tongue : Nat → Int32) (m_kept : Nat → Int32) (m_isKept : Nat → Int32) (x1 : Int32) : Option (Int32 × Int32 × (Nat → Int32) × (Nat → Int32) × (Nat → Int32)) := gm_bind (fX11_in N ((Int32.toInt64 x1)) 0 1) (fun o1 => (if o1 = 0 then gm_bind (fX11_bad N m_refused) (fun o7 => some (o7.1, 0, o7.2, m_kept, m_isKept)) else (fX11_image_b22 N  0 m_refused m_tongue m_isKept x1 m_kept 0)))
set_option maxRecDepth 20000 in
theorem inX11_image_X11 : ∀ w ∈ u_ws RX11 TX11 20, w ∈ wsX11_image := fun w h => by
  obtain ⟨k, hk, rfl⟩ := List.mem_map.mp h
  have hk2 := List.mem_range.mp hk
  exact List.mem_of_getElem? (i := 18 + k) (by rcases (show k = 0 ∨ k = 1 ∨ k = 2 ∨ k = 3 ∨ k = 4 ∨ k = 5 ∨ k = 6 ∨ k = 7 ∨ k = 8 ∨ k = 9 ∨ k = 10 ∨ k = 11 ∨ k = 12 ∨ k = 13 ∨ k = 14 ∨ k = 15 ∨ k = 16 ∨ k = 17 ∨ k = 18 ∨ k = 19 by omega) with rfl | rfl | rfl | rfl | rfl | rfl | rfl | rfl | rfl | rfl | rfl | rfl | rfl | rfl | rfl | rfl | rfl | rfl | rfl | rfl <;> rfl)
set_option maxRecDepth 100000 in
set_option maxHeartbeats 4000000 in
theorem tX11_image_b51 {p : Program} {l : Launch} {e : Env} {s : State} {m : MethodId} {args : Array Value} {below : List Frame} {meth : Method} {c : Code} {A : Nat → Prop} {dC : Nat → ClassId} {dI : Nat → Nat → Nat} {cI cZ : ClassId} {q q_refused q_tongue q_kept q_isKept q_fresh q_text q_said q_talk : Nat} {m_thrown : Int32} {m_size : Int32} {m_at : Int32} {m_start : Int32} {m_token : Int32} {m_value : Int64} {m_faultAt : Int32} {m_allowed : Int32} {m_firstPair : Int32} {m_secondPair : Int32} {m_above : Int64} {m_below : Int64} {m_refused : Nat → Int32} {m_tongue : Nat → Int32} {m_kept : Nat → Int32} {m_isKept : Nat → Int32} {x1 : Int32} (C0 : gm_C p s m args meth c (dC, dI) [(cI, .int), (cZ, .boolean)] A gm_T RX11 cX11_image 3 (some .int) wsX11_image) {N : Nat} {out : Int32 × Int32 × (Nat → Int32) × (Nat → Int32) × (Nat → Int32)}    {H : Heap} {locs : List Loc} {ls : Array Slot} (h : fX11_image_b51 N  m_thrown m_refused m_kept m_isKept x1 = some out) (hH : gm_H (dC, dI) A s (wX11_image cI cZ q q_refused q_tongue q_kept q_isKept q_fresh q_text q_said q_talk m_thrown m_size m_at m_start m_token m_value m_faultAt m_allowed m_firstPair m_secondPair m_above m_below m_refused m_tongue m_kept m_isKept) H locs) (hl : lv_has ls 3 [(0, .ref q), (1, .int x1)]) : W p l e rX11_image s m args below meth c H locs 0 0 (MQ below (gm_Q (dC, dI) [(cI, .int), (cZ, .boolean)] A (some (.int out.1)) (wX11_image cI cZ q q_refused q_tongue q_kept q_isKept q_fresh q_text q_said q_talk out.2.1 m_size m_at m_start m_token m_value m_faultAt m_allowed m_firstPair m_secondPair m_above m_below out.2.2.1 m_tongue out.2.2.2.1 out.2.2.2.2)) args s 0 0 A) (F0 m 51 ls []) := by
  obtain ⟨hx, hb, hml, hr, hown, hts, hA, hK, hX, hlocks⟩ := id C0
  unfold fX11_image_b51 at h
  refine lv_aload_n hx hb dX11_image_51 rfl (lv_at hl 0 rfl) ?_
  refine gm_get (ci := 11) C0 hH inX11_image_X11 0 5 4 rfl rfl (by decide) rfl rfl dX11_image_52 ?_
  refine lv_iload_n hx hb dX11_image_55 rfl (lv_at hl 1 rfl) ?_
  refine lv_iconst (v := 1) hx hb dX11_image_56 (by decide) ?_
  obtain ⟨hi4, h⟩ := gm_chk_e h
  refine gm_zast C0 hH hi4 4 1 rfl rfl dX11_image_57 (fun H locs hH => ?_)
  have hH : gm_H (dC, dI) A s (wX11_image cI cZ q q_refused q_tongue q_kept q_isKept q_fresh q_text q_said q_talk m_thrown m_size m_at m_start m_token m_value m_faultAt m_allowed m_firstPair m_secondPair m_above m_below m_refused m_tongue m_kept (upd m_isKept (Int32.toNatClampNeg x1) (vp_nar .boolean 1))) H locs := hH
  refine lv_iconst (v := 1) hx hb dX11_image_58 (by decide) ?_
  obtain rfl := Option.some.inj h
  exact gm_iret C0 hH dX11_image_59
set_option maxRecDepth 100000 in
set_option maxHeartbeats 4000000 in
theorem tX11_image_b22 {p : Program} {l : Launch} {e : Env} {s : State} {m : MethodId} {args : Array Value} {below : List Frame} {meth : Method} {c : Code} {A : Nat → Prop} {dC : Nat → ClassId} {dI : Nat → Nat → Nat} {cI cZ : ClassId} {q q_refused q_tongue q_kept q_isKept q_fresh q_text q_said q_talk : Nat} {m_thrown : Int32} {m_size : Int32} {m_at : Int32} {m_start : Int32} {m_token : Int32} {m_value : Int64} {m_faultAt : Int32} {m_allowed : Int32} {m_firstPair : Int32} {m_secondPair : Int32} {m_above : Int64} {m_below : Int64} {m_refused : Nat → Int32} {m_tongue : Nat → Int32} {m_isKept : Nat → Int32} {x1 : Int32} (C0 : gm_C p s m args meth c (dC, dI) [(cI, .int), (cZ, .boolean)] A gm_T RX11 cX11_image 3 (some .int) wsX11_image) {N : Nat} {out : Int32 × Int32 × (Nat → Int32) × (Nat → Int32) × (Nat → Int32)}   : ∀ (n : Nat), ∀ (m_kept : Nat → Int32) (x2 : Int32) (H : Heap) (locs : List Loc) (ls : Array Slot), (gm_fix (fX11_image_b22_body N  m_thrown m_refused m_tongue m_isKept x1) (fun _ _ => none) n) m_kept x2 = some out → gm_H (dC, dI) A s (wX11_image cI cZ q q_refused q_tongue q_kept q_isKept q_fresh q_text q_said q_talk m_thrown m_size m_at m_start m_token m_value m_faultAt m_allowed m_firstPair m_secondPair m_above m_below m_refused m_tongue m_kept m_isKept) H locs → lv_has ls 3 [(0, .ref q), (1, .int x1), (2, .int x2)] → W p l e rX11_image s m args below meth c H locs 0 0 (MQ below (gm_Q (dC, dI) [(cI, .int), (cZ, .boolean)] A (some (.int out.1)) (wX11_image cI cZ q q_refused q_tongue q_kept q_isKept q_fresh q_text q_said q_talk out.2.1 m_size m_at m_start m_token m_value m_faultAt m_allowed m_firstPair m_secondPair m_above m_below out.2.2.1 m_tongue out.2.2.2.1 out.2.2.2.2)) args s 0 0 A) (F0 m 22 ls []) := by
  obtain ⟨hx, hb, hml, hr, hown, hts, hA, hK, hX, hlocks⟩ := id C0
  intro n
  induction n with
  | zero =>
    intro m_kept x2 H locs ls h hH hl
    cases h
  | succ n hr22 =>
    intro m_kept x2 H locs ls h hH hl
    rw [gm_fix_s] at h
    unfold fX11_image_b22_body at h
    refine lv_iload_n hx hb dX11_image_22 rfl (lv_at hl 2 rfl) ?_
    refine lv_bipush (v := 73) hx hb dX11_image_23 (by decide) ?_
    refine lv_icmp_ge (tgt := 51) hx hb dX11_image_25 (by decide) (fun hc3 => ?_) (fun hc3 => ?_)
    · replace h := gm_pos hc3 h
      exact tX11_image_b51 C0  h hH (lv_sub hl [0, 1] rfl)
    · replace h := gm_neg hc3 h
      refine lv_aload_n hx hb dX11_image_28 rfl (lv_at hl 0 rfl) ?_
      refine gm_get (ci := 11) C0 hH inX11_image_X11 0 4 2 rfl rfl (by decide) rfl rfl dX11_image_29 ?_
      refine lv_bipush (v := 73) hx hb dX11_image_32 (by decide) ?_
      refine lv_iload_n hx hb dX11_image_34 rfl (lv_at hl 1 rfl) ?_
      refine lv_imul hx hb dX11_image_35 ?_
      refine lv_iload_n hx hb dX11_image_36 rfl (lv_at hl 2 rfl) ?_
      refine lv_iadd hx hb dX11_image_37 ?_
      refine lv_aload_n hx hb dX11_image_38 rfl (lv_at hl 0 rfl) ?_
      refine gm_get (ci := 11) C0 hH inX11_image_X11 0 2 3 rfl rfl (by decide) rfl rfl dX11_image_39 ?_
      refine lv_iload_n hx hb dX11_image_42 rfl (lv_at hl 2 rfl) ?_
      obtain ⟨hi5, h⟩ := gm_chk_e h
      refine gm_iald C0 hH hi5 2 0 rfl rfl dX11_image_43 ?_
      obtain ⟨hi6, h⟩ := gm_chk_e h
      refine gm_iast C0 hH hi6 3 0 rfl rfl dX11_image_44 (fun H locs hH => ?_)
      have hH : gm_H (dC, dI) A s (wX11_image cI cZ q q_refused q_tongue q_kept q_isKept q_fresh q_text q_said q_talk m_thrown m_size m_at m_start m_token m_value m_faultAt m_allowed m_firstPair m_secondPair m_above m_below m_refused m_tongue (upd m_kept (Int32.toNatClampNeg (((73 * x1) + x2))) ((m_tongue (Int32.toNatClampNeg x2)))) m_isKept) H locs := hH
      refine lv_iinc (v := (x2 + 1)) (lv' := [(2, .int (x2 + 1)), (0, .ref q), (1, .int x1)]) hx hb dX11_image_45 hl (k := 2) rfl rfl (by decide) rfl (fun ls hl => ?_)
      refine lv_goto (tgt := 22) hx hb dX11_image_48 (by decide) ?_
      exact hr22 _ _ _ _ _ h hH (lv_sub hl [1, 2, 0] rfl)
set_option maxRecDepth 100000 in
set_option maxHeartbeats 4000000 in
theorem mX11_image (l : Launch) (dC : Nat → ClassId) (dI : Nat → Nat → Nat) (cI cZ : ClassId) (q q_refused q_tongue q_kept q_isKept q_fresh q_text q_said q_talk : Nat) (m_thrown : Int32) (m_size : Int32) (m_at : Int32) (m_start : Int32) (m_token : Int32) (m_value : Int64) (m_faultAt : Int32) (m_allowed : Int32) (m_firstPair : Int32) (m_secondPair : Int32) (m_above : Int64) (m_below : Int64) (m_refused : Nat → Int32) (m_tongue : Nat → Int32) (m_kept : Nat → Int32) (m_isKept : Nat → Int32) (x1 : Int32)  {N : Nat} {out : Int32 × Int32 × (Nat → Int32) × (Nat → Int32) × (Nat → Int32)} (h : fX11_image N m_thrown m_refused m_tongue m_kept m_isKept x1 = some out) : gm_Met l yX11_image wsX11_image rX11_image (dC, dI) [(cI, .int), (cZ, .boolean)] gm_T [.ref q, .int x1] (wX11_image cI cZ q q_refused q_tongue q_kept q_isKept q_fresh q_text q_said q_talk m_thrown m_size m_at m_start m_token m_value m_faultAt m_allowed m_firstPair m_secondPair m_above m_below m_refused m_tongue m_kept m_isKept) (some (.int out.1)) (wX11_image cI cZ q q_refused q_tongue q_kept q_isKept q_fresh q_text q_said q_talk out.2.1 m_size m_at m_start m_token m_value m_faultAt m_allowed m_firstPair m_secondPair m_above m_below out.2.2.1 m_tongue out.2.2.2.1 out.2.2.2.2) := by
  refine gm_ofW (cc := cX11_image) (maxL := 3) (ret := (some .int)) (by decide +kernel) rfl (Nat.le_of_ble_eq_true rfl) ?_
  intro p e s m below meth c A C0 hH ls hl
  generalize ([.ref q, .int x1] : List Value).toArray = args at C0 ⊢
  have hl : lv_has ls 3 [(0, .ref q), (1, .int x1)] := hl
  generalize s.heap = H at hH ⊢
  generalize ([] : List Loc) = locs at hH ⊢
  obtain ⟨hx, hb, hml, hr, hown, hts, hA, hK, hX, hlocks⟩ := id C0
  unfold fX11_image at h
  refine lv_aload_n hx hb dX11_image_0 rfl (lv_at hl 0 rfl) ?_
  refine lv_iconst (v := 0) hx hb dX11_image_1 (by decide) ?_
  refine gm_putf (ci := 11) C0 hH inX11_image_X11 tyX11_ok nmX11 0 0 1 rfl rfl (by decide) rfl rfl rfl rfl rfl (Nat.le_of_ble_eq_true rfl) dX11_image_2 (fun H locs hH => ?_)
  have hH : gm_H (dC, dI) A s (wX11_image cI cZ q q_refused q_tongue q_kept q_isKept q_fresh q_text q_said q_talk 0 m_size m_at m_start m_token m_value m_faultAt m_allowed m_firstPair m_secondPair m_above m_below m_refused m_tongue m_kept m_isKept) H locs := hH
  refine lv_iload_n hx hb dX11_image_5 rfl (lv_at hl 1 rfl) ?_
  refine lv_i2l hx hb dX11_image_6 rfl ?_
  refine lv_lconst (v := 0) hx hb dX11_image_7 (by decide) ?_
  refine lv_lconst (v := 1) hx hb dX11_image_8 (by decide) ?_
  obtain ⟨o1, ho1, h⟩ := gm_bind_e h
  refine gm_callS (As := [.long (Int32.toInt64 x1), .long 0, .long 1]) (rest := []) (n := 3) C0 hH (mX11_in l dC dI    ((Int32.toInt64 x1)) 0 1   ho1) gX11_image_X11_in rfl (by decide +kernel) ⟨rfl, rfl, Nat.le_of_ble_eq_true rfl, Nat.le_of_ble_eq_true rfl⟩ gm_T_ok (fun _ => trivial) [] rfl rfl rfl [] rfl rfl hl.1 rfl (Nat.le_of_ble_eq_true rfl) dX11_image_9 ⟨Nat.zero_le _, Nat.zero_le _⟩ (fun H locs hH => ?_)
  have hH : gm_H (dC, dI) A s (wX11_image cI cZ q q_refused q_tongue q_kept q_isKept q_fresh q_text q_said q_talk 0 m_size m_at m_start m_token m_value m_faultAt m_allowed m_firstPair m_secondPair m_above m_below m_refused m_tongue m_kept m_isKept) H locs := hH
  refine lv_if_ne (tgt := 20) hx hb dX11_image_12 (by decide) (fun hc2 => ?_) (fun hc2 => ?_)
  · replace h := gm_neg hc2 h
    refine lv_iconst (v := 0) hx hb dX11_image_20 (by decide) ?_
    refine lv_istore_n (lv' := [(2, .int 0), (0, .ref q), (1, .int x1)]) hx hb dX11_image_21 rfl hl (by decide) rfl (fun ls hl => ?_)
    unfold fX11_image_b22 at h
    exact tX11_image_b22 C0  _ _ _ _ _ _ h hH (lv_sub hl [1, 2, 0] rfl)
  · replace h := gm_pos hc2 h
    refine lv_aload_n hx hb dX11_image_15 rfl (lv_at hl 0 rfl) ?_
    obtain ⟨o7, ho7, h⟩ := gm_bind_e h
    refine gm_callV (As := []) (rest := []) (n := 0) (ci := 11) (q0 := 0) C0 hH (mX11_bad l dC dI cI q q_refused q_tongue q_fresh q_kept q_isKept q_text q_said q_talk 0 m_size m_at m_start m_token m_value m_faultAt m_allowed m_firstPair m_secondPair m_above m_below m_refused    ho7) gX11_image_X11_bad rfl (by decide +kernel) ⟨rfl, rfl, Nat.le_of_ble_eq_true rfl, Nat.le_of_ble_eq_true rfl⟩ gm_T_ok (fun _ => trivial) [0, 1] rfl rfl rfl [0] rfl rfl rfl rfl hl.1 rfl (Nat.le_of_ble_eq_true rfl) dX11_image_16 ⟨Nat.zero_le _, Nat.zero_le _⟩ (fun H locs hH => ?_)
    have hH : gm_H (dC, dI) A s (wX11_image cI cZ q q_refused q_tongue q_kept q_isKept q_fresh q_text q_said q_talk 0 m_size m_at m_start m_token m_value m_faultAt m_allowed m_firstPair m_secondPair m_above m_below o7.2 m_tongue m_kept m_isKept) H locs := hH
    obtain rfl := Option.some.inj h
    exact gm_iret C0 hH dX11_image_19

/-! X11_from -/
abbrev wX11_from (cI cZ : ClassId) (q q_refused q_tongue q_kept q_isKept q_fresh q_text q_said q_talk : Nat) (m_thrown : Int32) (m_size : Int32) (m_at : Int32) (m_start : Int32) (m_token : Int32) (m_value : Int64) (m_faultAt : Int32) (m_allowed : Int32) (m_firstPair : Int32) (m_secondPair : Int32) (m_above : Int64) (m_below : Int64) (m_refused : Nat → Int32) (m_tongue : Nat → Int32) (m_kept : Nat → Int32) (m_isKept : Nat → Int32) : va_W := [(q, .inr (11, [.int m_thrown, .ref q_refused, .ref q_tongue, .ref q_fresh, .ref q_kept, .ref q_isKept, .ref q_text, .int m_size, .int m_at, .int m_start, .int m_token, .long m_value, .int m_faultAt, .ref q_said, .ref q_talk, .int m_allowed, .int m_firstPair, .int m_secondPair, .long m_above, .long m_below])), (q_refused, .inl (cI, 3, .inl m_refused)), (q_tongue, .inl (cI, 73, .inl m_tongue)), (q_kept, .inl (cI, 146, .inl m_kept)), (q_isKept, .inl (cZ, 2, .inl m_isKept))]
abbrev rX11_from : Room := { frames := 2, cells := 0, slots := 0, locals := 42 }
def fX11_from_b36_body (N : Nat)  (m_thrown : Int32) (m_refused : Nat → Int32) (m_kept : Nat → Int32) (x1 : Int32) (r36 : (Nat → Int32) → Int32 → Option (Int32 × Int32 × (Nat → Int32) × (Nat → Int32))) (m_tongue : Nat → Int32) (x2 : Int32) : Option (Int32 × Int32 × (Nat → Int32) × (Nat → Int32)) := (if 73 ≤ x2 then some (1, m_thrown, m_refused, m_tongue) else gm_chk (((73 * x1) + x2)) 146 (gm_chk x2 73 ((r36 (upd m_tongue (Int32.toNatClampNeg x2) ((m_kept (Int32.toNatClampNeg (((73 * x1) + x2)))))) ((x2 + 1))))))
def fX11_from_b36 (N : Nat)  (m_thrown : Int32) (m_refused : Nat → Int32) (m_kept : Nat → Int32) (x1 : Int32) (m_tongue : Nat → Int32) (x2 : Int32) : Option (Int32 × Int32 × (Nat → Int32) × (Nat → Int32)) := gm_fix (fX11_from_b36_body N  m_thrown m_refused m_kept x1) (fun _ _ => none) N m_tongue x2
def fX11_from (N : Nat) (m_thrown : Int32) (m_refused : Nat → Int32) (m_tongue : Nat → Int32) (m_kept : Nat → Int32) (m_isKept : Nat → Int32) (x1 : Int32) : Option (Int32 × Int32 × (Nat → Int32) × (Nat → Int32)) := gm_bind (fX11_in N ((Int32.toInt64 x1)) 0 1) (fun o1 => (if o1 = 0 then gm_bind (fX11_bad N m_refused) (fun o9 => some (o9.1, 0, o9.2, m_tongue)) else gm_chk x1 2 ((if (m_isKept (Int32.toNatClampNeg x1)) = 0 then gm_bind (fX11_no N m_refused) (fun o8 => some (o8.1, 0, o8.2, m_tongue)) else (fX11_from_b36 N  0 m_refused m_kept x1 m_tongue 0)))))
set_option maxRecDepth 20000 in
theorem inX11_from_X11 : ∀ w ∈ u_ws RX11 TX11 20, w ∈ wsX11_from := fun w h => by
  obtain ⟨k, hk, rfl⟩ := List.mem_map.mp h
  have hk2 := List.mem_range.mp hk
  exact List.mem_of_getElem? (i := 22 + k) (by rcases (show k = 0 ∨ k = 1 ∨ k = 2 ∨ k = 3 ∨ k = 4 ∨ k = 5 ∨ k = 6 ∨ k = 7 ∨ k = 8 ∨ k = 9 ∨ k = 10 ∨ k = 11 ∨ k = 12 ∨ k = 13 ∨ k = 14 ∨ k = 15 ∨ k = 16 ∨ k = 17 ∨ k = 18 ∨ k = 19 by omega) with rfl | rfl | rfl | rfl | rfl | rfl | rfl | rfl | rfl | rfl | rfl | rfl | rfl | rfl | rfl | rfl | rfl | rfl | rfl | rfl <;> rfl)
set_option maxRecDepth 100000 in
set_option maxHeartbeats 4000000 in
theorem tX11_from_b36 {p : Program} {l : Launch} {e : Env} {s : State} {m : MethodId} {args : Array Value} {below : List Frame} {meth : Method} {c : Code} {A : Nat → Prop} {dC : Nat → ClassId} {dI : Nat → Nat → Nat} {cI cZ : ClassId} {q q_refused q_tongue q_kept q_isKept q_fresh q_text q_said q_talk : Nat} {m_thrown : Int32} {m_size : Int32} {m_at : Int32} {m_start : Int32} {m_token : Int32} {m_value : Int64} {m_faultAt : Int32} {m_allowed : Int32} {m_firstPair : Int32} {m_secondPair : Int32} {m_above : Int64} {m_below : Int64} {m_refused : Nat → Int32} {m_kept : Nat → Int32} {m_isKept : Nat → Int32} {x1 : Int32} (C0 : gm_C p s m args meth c (dC, dI) [(cI, .int), (cZ, .boolean)] A gm_T RX11 cX11_from 3 (some .int) wsX11_from) {N : Nat} {out : Int32 × Int32 × (Nat → Int32) × (Nat → Int32)}   : ∀ (n : Nat), ∀ (m_tongue : Nat → Int32) (x2 : Int32) (H : Heap) (locs : List Loc) (ls : Array Slot), (gm_fix (fX11_from_b36_body N  m_thrown m_refused m_kept x1) (fun _ _ => none) n) m_tongue x2 = some out → gm_H (dC, dI) A s (wX11_from cI cZ q q_refused q_tongue q_kept q_isKept q_fresh q_text q_said q_talk m_thrown m_size m_at m_start m_token m_value m_faultAt m_allowed m_firstPair m_secondPair m_above m_below m_refused m_tongue m_kept m_isKept) H locs → lv_has ls 3 [(0, .ref q), (1, .int x1), (2, .int x2)] → W p l e rX11_from s m args below meth c H locs 0 0 (MQ below (gm_Q (dC, dI) [(cI, .int), (cZ, .boolean)] A (some (.int out.1)) (wX11_from cI cZ q q_refused q_tongue q_kept q_isKept q_fresh q_text q_said q_talk out.2.1 m_size m_at m_start m_token m_value m_faultAt m_allowed m_firstPair m_secondPair m_above m_below out.2.2.1 out.2.2.2 m_kept m_isKept)) args s 0 0 A) (F0 m 36 ls []) := by
  obtain ⟨hx, hb, hml, hr, hown, hts, hA, hK, hX, hlocks⟩ := id C0
  intro n
  induction n with
  | zero =>
    intro m_tongue x2 H locs ls h hH hl
    cases h
  | succ n hr36 =>
    intro m_tongue x2 H locs ls h hH hl
    rw [gm_fix_s] at h
    unfold fX11_from_b36_body at h
    refine lv_iload_n hx hb dX11_from_36 rfl (lv_at hl 2 rfl) ?_
    refine lv_bipush (v := 73) hx hb dX11_from_37 (by decide) ?_
    refine lv_icmp_ge (tgt := 65) hx hb dX11_from_39 (by decide) (fun hc5 => ?_) (fun hc5 => ?_)
    · replace h := gm_pos hc5 h
      refine lv_iconst (v := 1) hx hb dX11_from_65 (by decide) ?_
      obtain rfl := Option.some.inj h
      exact gm_iret C0 hH dX11_from_66
    · replace h := gm_neg hc5 h
      refine lv_aload_n hx hb dX11_from_42 rfl (lv_at hl 0 rfl) ?_
      refine gm_get (ci := 11) C0 hH inX11_from_X11 0 2 3 rfl rfl (by decide) rfl rfl dX11_from_43 ?_
      refine lv_iload_n hx hb dX11_from_46 rfl (lv_at hl 2 rfl) ?_
      refine lv_aload_n hx hb dX11_from_47 rfl (lv_at hl 0 rfl) ?_
      refine gm_get (ci := 11) C0 hH inX11_from_X11 0 4 4 rfl rfl (by decide) rfl rfl dX11_from_48 ?_
      refine lv_bipush (v := 73) hx hb dX11_from_51 (by decide) ?_
      refine lv_iload_n hx hb dX11_from_53 rfl (lv_at hl 1 rfl) ?_
      refine lv_imul hx hb dX11_from_54 ?_
      refine lv_iload_n hx hb dX11_from_55 rfl (lv_at hl 2 rfl) ?_
      refine lv_iadd hx hb dX11_from_56 ?_
      obtain ⟨hi6, h⟩ := gm_chk_e h
      refine gm_iald C0 hH hi6 3 0 rfl rfl dX11_from_57 ?_
      obtain ⟨hi7, h⟩ := gm_chk_e h
      refine gm_iast C0 hH hi7 2 0 rfl rfl dX11_from_58 (fun H locs hH => ?_)
      have hH : gm_H (dC, dI) A s (wX11_from cI cZ q q_refused q_tongue q_kept q_isKept q_fresh q_text q_said q_talk m_thrown m_size m_at m_start m_token m_value m_faultAt m_allowed m_firstPair m_secondPair m_above m_below m_refused (upd m_tongue (Int32.toNatClampNeg x2) ((m_kept (Int32.toNatClampNeg (((73 * x1) + x2)))))) m_kept m_isKept) H locs := hH
      refine lv_iinc (v := (x2 + 1)) (lv' := [(2, .int (x2 + 1)), (0, .ref q), (1, .int x1)]) hx hb dX11_from_59 hl (k := 2) rfl rfl (by decide) rfl (fun ls hl => ?_)
      refine lv_goto (tgt := 36) hx hb dX11_from_62 (by decide) ?_
      exact hr36 _ _ _ _ _ h hH (lv_sub hl [1, 2, 0] rfl)
set_option maxRecDepth 100000 in
set_option maxHeartbeats 4000000 in
theorem mX11_from (l : Launch) (dC : Nat → ClassId) (dI : Nat → Nat → Nat) (cI cZ : ClassId) (q q_refused q_tongue q_kept q_isKept q_fresh q_text q_said q_talk : Nat) (m_thrown : Int32) (m_size : Int32) (m_at : Int32) (m_start : Int32) (m_token : Int32) (m_value : Int64) (m_faultAt : Int32) (m_allowed : Int32) (m_firstPair : Int32) (m_secondPair : Int32) (m_above : Int64) (m_below : Int64) (m_refused : Nat → Int32) (m_tongue : Nat → Int32) (m_kept : Nat → Int32) (m_isKept : Nat → Int32) (x1 : Int32)  {N : Nat} {out : Int32 × Int32 × (Nat → Int32) × (Nat → Int32)} (h : fX11_from N m_thrown m_refused m_tongue m_kept m_isKept x1 = some out) : gm_Met l yX11_from wsX11_from rX11_from (dC, dI) [(cI, .int), (cZ, .boolean)] gm_T [.ref q, .int x1] (wX11_from cI cZ q q_refused q_tongue q_kept q_isKept q_fresh q_text q_said q_talk m_thrown m_size m_at m_start m_token m_value m_faultAt m_allowed m_firstPair m_secondPair m_above m_below m_refused m_tongue m_kept m_isKept) (some (.int out.1)) (wX11_from cI cZ q q_refused q_tongue q_kept q_isKept q_fresh q_text q_said q_talk out.2.1 m_size m_at m_start m_token m_value m_faultAt m_allowed m_firstPair m_secondPair m_above m_below out.2.2.1 out.2.2.2 m_kept m_isKept) := by
  refine gm_ofW (cc := cX11_from) (maxL := 3) (ret := (some .int)) (by decide +kernel) rfl (Nat.le_of_ble_eq_true rfl) ?_
  intro p e s m below meth c A C0 hH ls hl
  generalize ([.ref q, .int x1] : List Value).toArray = args at C0 ⊢
  have hl : lv_has ls 3 [(0, .ref q), (1, .int x1)] := hl
  generalize s.heap = H at hH ⊢
  generalize ([] : List Loc) = locs at hH ⊢
  obtain ⟨hx, hb, hml, hr, hown, hts, hA, hK, hX, hlocks⟩ := id C0
  unfold fX11_from at h
  refine lv_aload_n hx hb dX11_from_0 rfl (lv_at hl 0 rfl) ?_
  refine lv_iconst (v := 0) hx hb dX11_from_1 (by decide) ?_
  refine gm_putf (ci := 11) C0 hH inX11_from_X11 tyX11_ok nmX11 0 0 1 rfl rfl (by decide) rfl rfl rfl rfl rfl (Nat.le_of_ble_eq_true rfl) dX11_from_2 (fun H locs hH => ?_)
  have hH : gm_H (dC, dI) A s (wX11_from cI cZ q q_refused q_tongue q_kept q_isKept q_fresh q_text q_said q_talk 0 m_size m_at m_start m_token m_value m_faultAt m_allowed m_firstPair m_secondPair m_above m_below m_refused m_tongue m_kept m_isKept) H locs := hH
  refine lv_iload_n hx hb dX11_from_5 rfl (lv_at hl 1 rfl) ?_
  refine lv_i2l hx hb dX11_from_6 rfl ?_
  refine lv_lconst (v := 0) hx hb dX11_from_7 (by decide) ?_
  refine lv_lconst (v := 1) hx hb dX11_from_8 (by decide) ?_
  obtain ⟨o1, ho1, h⟩ := gm_bind_e h
  refine gm_callS (As := [.long (Int32.toInt64 x1), .long 0, .long 1]) (rest := []) (n := 3) C0 hH (mX11_in l dC dI    ((Int32.toInt64 x1)) 0 1   ho1) gX11_from_X11_in rfl (by decide +kernel) ⟨rfl, rfl, Nat.le_of_ble_eq_true rfl, Nat.le_of_ble_eq_true rfl⟩ gm_T_ok (fun _ => trivial) [] rfl rfl rfl [] rfl rfl hl.1 rfl (Nat.le_of_ble_eq_true rfl) dX11_from_9 ⟨Nat.zero_le _, Nat.zero_le _⟩ (fun H locs hH => ?_)
  have hH : gm_H (dC, dI) A s (wX11_from cI cZ q q_refused q_tongue q_kept q_isKept q_fresh q_text q_said q_talk 0 m_size m_at m_start m_token m_value m_faultAt m_allowed m_firstPair m_secondPair m_above m_below m_refused m_tongue m_kept m_isKept) H locs := hH
  refine lv_if_ne (tgt := 20) hx hb dX11_from_12 (by decide) (fun hc2 => ?_) (fun hc2 => ?_)
  · replace h := gm_neg hc2 h
    refine lv_aload_n hx hb dX11_from_20 rfl (lv_at hl 0 rfl) ?_
    refine gm_get (ci := 11) C0 hH inX11_from_X11 0 5 2 rfl rfl (by decide) rfl rfl dX11_from_21 ?_
    refine lv_iload_n hx hb dX11_from_24 rfl (lv_at hl 1 rfl) ?_
    obtain ⟨hi3, h⟩ := gm_chk_e h
    refine gm_zald C0 hH hi3 4 1 rfl rfl dX11_from_25 ?_
    refine lv_if_ne (tgt := 34) hx hb dX11_from_26 (by decide) (fun hc4 => ?_) (fun hc4 => ?_)
    · replace h := gm_neg hc4 h
      refine lv_iconst (v := 0) hx hb dX11_from_34 (by decide) ?_
      refine lv_istore_n (lv' := [(2, .int 0), (0, .ref q), (1, .int x1)]) hx hb dX11_from_35 rfl hl (by decide) rfl (fun ls hl => ?_)
      unfold fX11_from_b36 at h
      exact tX11_from_b36 C0  _ _ _ _ _ _ h hH (lv_sub hl [1, 2, 0] rfl)
    · replace h := gm_pos hc4 h
      refine lv_aload_n hx hb dX11_from_29 rfl (lv_at hl 0 rfl) ?_
      obtain ⟨o8, ho8, h⟩ := gm_bind_e h
      refine gm_callV (As := []) (rest := []) (n := 0) (ci := 11) (q0 := 0) C0 hH (mX11_no l dC dI cI q q_refused q_tongue q_fresh q_kept q_isKept q_text q_said q_talk 0 m_size m_at m_start m_token m_value m_faultAt m_allowed m_firstPair m_secondPair m_above m_below m_refused    ho8) gX11_from_X11_no rfl (by decide +kernel) ⟨rfl, rfl, Nat.le_of_ble_eq_true rfl, Nat.le_of_ble_eq_true rfl⟩ gm_T_ok (fun _ => trivial) [0, 1] rfl rfl rfl [0] rfl rfl rfl rfl hl.1 rfl (Nat.le_of_ble_eq_true rfl) dX11_from_30 ⟨Nat.zero_le _, Nat.zero_le _⟩ (fun H locs hH => ?_)
      have hH : gm_H (dC, dI) A s (wX11_from cI cZ q q_refused q_tongue q_kept q_isKept q_fresh q_text q_said q_talk 0 m_size m_at m_start m_token m_value m_faultAt m_allowed m_firstPair m_secondPair m_above m_below o8.2 m_tongue m_kept m_isKept) H locs := hH
      obtain rfl := Option.some.inj h
      exact gm_iret C0 hH dX11_from_33
  · replace h := gm_pos hc2 h
    refine lv_aload_n hx hb dX11_from_15 rfl (lv_at hl 0 rfl) ?_
    obtain ⟨o9, ho9, h⟩ := gm_bind_e h
    refine gm_callV (As := []) (rest := []) (n := 0) (ci := 11) (q0 := 0) C0 hH (mX11_bad l dC dI cI q q_refused q_tongue q_fresh q_kept q_isKept q_text q_said q_talk 0 m_size m_at m_start m_token m_value m_faultAt m_allowed m_firstPair m_secondPair m_above m_below m_refused    ho9) gX11_from_X11_bad rfl (by decide +kernel) ⟨rfl, rfl, Nat.le_of_ble_eq_true rfl, Nat.le_of_ble_eq_true rfl⟩ gm_T_ok (fun _ => trivial) [0, 1] rfl rfl rfl [0] rfl rfl rfl rfl hl.1 rfl (Nat.le_of_ble_eq_true rfl) dX11_from_16 ⟨Nat.zero_le _, Nat.zero_le _⟩ (fun H locs hH => ?_)
    have hH : gm_H (dC, dI) A s (wX11_from cI cZ q q_refused q_tongue q_kept q_isKept q_fresh q_text q_said q_talk 0 m_size m_at m_start m_token m_value m_faultAt m_allowed m_firstPair m_secondPair m_above m_below o9.2 m_tongue m_kept m_isKept) H locs := hH
    obtain rfl := Option.some.inj h
    exact gm_iret C0 hH dX11_from_19

/-! X11_status -/
abbrev wX11_status (cI : ClassId) (q q_refused q_tongue q_fresh q_kept q_isKept q_text q_said q_talk : Nat) (m_thrown : Int32) (m_size : Int32) (m_at : Int32) (m_start : Int32) (m_token : Int32) (m_value : Int64) (m_faultAt : Int32) (m_allowed : Int32) (m_firstPair : Int32) (m_secondPair : Int32) (m_above : Int64) (m_below : Int64) (m_refused : Nat → Int32) : va_W := [(q, .inr (11, [.int m_thrown, .ref q_refused, .ref q_tongue, .ref q_fresh, .ref q_kept, .ref q_isKept, .ref q_text, .int m_size, .int m_at, .int m_start, .int m_token, .long m_value, .int m_faultAt, .ref q_said, .ref q_talk, .int m_allowed, .int m_firstPair, .int m_secondPair, .long m_above, .long m_below])), (q_refused, .inl (cI, 3, .inl m_refused))]
abbrev rX11_status : Room := { frames := 1, cells := 0, slots := 0, locals := 25 }
def fX11_status (N : Nat) (m_thrown : Int32) (m_refused : Nat → Int32) (x1 : Int32) : Option (Int32 × Int32 × (Nat → Int32)) := gm_bind (fX11_in N ((Int32.toInt64 x1)) 0 2) (fun o1 => (if o1 = 0 then gm_bind (fX11_refuse N m_refused 0 ((-1))) (fun o3 => some (o3.1, 0, o3.2)) else gm_chk x1 3 (some ((m_refused (Int32.toNatClampNeg x1)), 0, m_refused))))
set_option maxRecDepth 20000 in
theorem inX11_status_X11 : ∀ w ∈ u_ws RX11 TX11 20, w ∈ wsX11_status := fun w h => by
  obtain ⟨k, hk, rfl⟩ := List.mem_map.mp h
  have hk2 := List.mem_range.mp hk
  exact List.mem_of_getElem? (i := 12 + k) (by rcases (show k = 0 ∨ k = 1 ∨ k = 2 ∨ k = 3 ∨ k = 4 ∨ k = 5 ∨ k = 6 ∨ k = 7 ∨ k = 8 ∨ k = 9 ∨ k = 10 ∨ k = 11 ∨ k = 12 ∨ k = 13 ∨ k = 14 ∨ k = 15 ∨ k = 16 ∨ k = 17 ∨ k = 18 ∨ k = 19 by omega) with rfl | rfl | rfl | rfl | rfl | rfl | rfl | rfl | rfl | rfl | rfl | rfl | rfl | rfl | rfl | rfl | rfl | rfl | rfl | rfl <;> rfl)
set_option maxRecDepth 100000 in
set_option maxHeartbeats 4000000 in
theorem mX11_status (l : Launch) (dC : Nat → ClassId) (dI : Nat → Nat → Nat) (cI : ClassId) (q q_refused q_tongue q_fresh q_kept q_isKept q_text q_said q_talk : Nat) (m_thrown : Int32) (m_size : Int32) (m_at : Int32) (m_start : Int32) (m_token : Int32) (m_value : Int64) (m_faultAt : Int32) (m_allowed : Int32) (m_firstPair : Int32) (m_secondPair : Int32) (m_above : Int64) (m_below : Int64) (m_refused : Nat → Int32) (x1 : Int32)  {N : Nat} {out : Int32 × Int32 × (Nat → Int32)} (h : fX11_status N m_thrown m_refused x1 = some out) : gm_Met l yX11_status wsX11_status rX11_status (dC, dI) [(cI, .int)] gm_T [.ref q, .int x1] (wX11_status cI q q_refused q_tongue q_fresh q_kept q_isKept q_text q_said q_talk m_thrown m_size m_at m_start m_token m_value m_faultAt m_allowed m_firstPair m_secondPair m_above m_below m_refused) (some (.int out.1)) (wX11_status cI q q_refused q_tongue q_fresh q_kept q_isKept q_text q_said q_talk out.2.1 m_size m_at m_start m_token m_value m_faultAt m_allowed m_firstPair m_secondPair m_above m_below out.2.2) := by
  refine gm_ofW (cc := cX11_status) (maxL := 2) (ret := (some .int)) (by decide +kernel) rfl (Nat.le_of_ble_eq_true rfl) ?_
  intro p e s m below meth c A C0 hH ls hl
  generalize ([.ref q, .int x1] : List Value).toArray = args at C0 ⊢
  have hl : lv_has ls 2 [(0, .ref q), (1, .int x1)] := hl
  generalize s.heap = H at hH ⊢
  generalize ([] : List Loc) = locs at hH ⊢
  obtain ⟨hx, hb, hml, hr, hown, hts, hA, hK, hX, hlocks⟩ := id C0
  unfold fX11_status at h
  refine lv_aload_n hx hb dX11_status_0 rfl (lv_at hl 0 rfl) ?_
  refine lv_iconst (v := 0) hx hb dX11_status_1 (by decide) ?_
  refine gm_putf (ci := 11) C0 hH inX11_status_X11 tyX11_ok nmX11 0 0 1 rfl rfl (by decide) rfl rfl rfl rfl rfl (Nat.le_of_ble_eq_true rfl) dX11_status_2 (fun H locs hH => ?_)
  have hH : gm_H (dC, dI) A s (wX11_status cI q q_refused q_tongue q_fresh q_kept q_isKept q_text q_said q_talk 0 m_size m_at m_start m_token m_value m_faultAt m_allowed m_firstPair m_secondPair m_above m_below m_refused) H locs := hH
  refine lv_iload_n hx hb dX11_status_5 rfl (lv_at hl 1 rfl) ?_
  refine lv_i2l hx hb dX11_status_6 rfl ?_
  refine lv_lconst (v := 0) hx hb dX11_status_7 (by decide) ?_
  refine lv_ldc2 (own := RX11) (v := 2) hx hb hown (gm_at C0 2 rfl) dX11_status_8 ?_
  obtain ⟨o1, ho1, h⟩ := gm_bind_e h
  refine gm_callS (As := [.long (Int32.toInt64 x1), .long 0, .long 2]) (rest := []) (n := 3) C0 hH (mX11_in l dC dI    ((Int32.toInt64 x1)) 0 2   ho1) gX11_status_X11_in rfl (by decide +kernel) ⟨rfl, rfl, Nat.le_of_ble_eq_true rfl, Nat.le_of_ble_eq_true rfl⟩ gm_T_ok (fun _ => trivial) [] rfl rfl rfl [] rfl rfl hl.1 rfl (Nat.le_of_ble_eq_true rfl) dX11_status_11 ⟨Nat.zero_le _, Nat.zero_le _⟩ (fun H locs hH => ?_)
  have hH : gm_H (dC, dI) A s (wX11_status cI q q_refused q_tongue q_fresh q_kept q_isKept q_text q_said q_talk 0 m_size m_at m_start m_token m_value m_faultAt m_allowed m_firstPair m_secondPair m_above m_below m_refused) H locs := hH
  refine lv_if_eq (tgt := 26) hx hb dX11_status_14 (by decide) (fun hc2 => ?_) (fun hc2 => ?_)
  · replace h := gm_pos hc2 h
    refine lv_aload_n hx hb dX11_status_26 rfl (lv_at hl 0 rfl) ?_
    refine lv_iconst (v := 0) hx hb dX11_status_27 (by decide) ?_
    refine lv_iconst (v := (-1)) hx hb dX11_status_28 (by decide) ?_
    obtain ⟨o3, ho3, h⟩ := gm_bind_e h
    refine gm_callV (As := [.int 0, .int (-1)]) (rest := []) (n := 2) (ci := 11) (q0 := 0) C0 hH (mX11_refuse l dC dI cI q q_refused q_tongue q_fresh q_kept q_isKept q_text q_said q_talk 0 m_size m_at m_start m_token m_value m_faultAt m_allowed m_firstPair m_secondPair m_above m_below m_refused 0 ((-1))   ho3) gX11_status_X11_refuse rfl (by decide +kernel) ⟨rfl, rfl, Nat.le_of_ble_eq_true rfl, Nat.le_of_ble_eq_true rfl⟩ gm_T_ok (fun _ => trivial) [0, 1] rfl rfl rfl [0] rfl rfl rfl rfl hl.1 rfl (Nat.le_of_ble_eq_true rfl) dX11_status_29 ⟨Nat.zero_le _, Nat.zero_le _⟩ (fun H locs hH => ?_)
    have hH : gm_H (dC, dI) A s (wX11_status cI q q_refused q_tongue q_fresh q_kept q_isKept q_text q_said q_talk 0 m_size m_at m_start m_token m_value m_faultAt m_allowed m_firstPair m_secondPair m_above m_below o3.2) H locs := hH
    obtain rfl := Option.some.inj h
    exact gm_iret C0 hH dX11_status_32
  · replace h := gm_neg hc2 h
    refine lv_aload_n hx hb dX11_status_17 rfl (lv_at hl 0 rfl) ?_
    refine gm_get (ci := 11) C0 hH inX11_status_X11 0 1 3 rfl rfl (by decide) rfl rfl dX11_status_18 ?_
    refine lv_iload_n hx hb dX11_status_21 rfl (lv_at hl 1 rfl) ?_
    obtain ⟨hi4, h⟩ := gm_chk_e h
    refine gm_iald C0 hH hi4 1 0 rfl rfl dX11_status_22 ?_
    refine lv_goto (tgt := 32) hx hb dX11_status_23 (by decide) ?_
    obtain rfl := Option.some.inj h
    exact gm_iret C0 hH dX11_status_32

/-! X11_pairs -/
abbrev wX11_pairs (cI : ClassId) (q q_tongue q_refused q_fresh q_kept q_isKept q_text q_said q_talk : Nat) (m_thrown : Int32) (m_size : Int32) (m_at : Int32) (m_start : Int32) (m_token : Int32) (m_value : Int64) (m_faultAt : Int32) (m_allowed : Int32) (m_firstPair : Int32) (m_secondPair : Int32) (m_above : Int64) (m_below : Int64) (m_tongue : Nat → Int32) : va_W := [(q, .inr (11, [.int m_thrown, .ref q_refused, .ref q_tongue, .ref q_fresh, .ref q_kept, .ref q_isKept, .ref q_text, .int m_size, .int m_at, .int m_start, .int m_token, .long m_value, .int m_faultAt, .ref q_said, .ref q_talk, .int m_allowed, .int m_firstPair, .int m_secondPair, .long m_above, .long m_below])), (q_tongue, .inl (cI, 73, .inl m_tongue))]
abbrev rX11_pairs : Room := { frames := 1, cells := 0, slots := 0, locals := 22 }
def fX11_pairs_b4_body (N : Nat)  (m_tongue : Nat → Int32) (r4 : Int32 → Int32 → Option (Int32)) (x1 : Int32) (x2 : Int32) : Option (Int32) := (if 8 ≤ x2 then gm_nz 2 (some ((x1 / 2))) else gm_chk ((45 + x2)) 73 (gm_bind (fX11_bits N ((m_tongue (Int32.toNatClampNeg ((45 + x2)))))) (fun o4 => gm_let ((x1 + o4) : Int32) (fun (v5 : Int32) => (r4 v5 ((x2 + 1)))))))
def fX11_pairs_b4 (N : Nat)  (m_tongue : Nat → Int32) (x1 : Int32) (x2 : Int32) : Option (Int32) := gm_fix (fX11_pairs_b4_body N  m_tongue) (fun _ _ => none) N x1 x2
def fX11_pairs (N : Nat) (m_tongue : Nat → Int32)  : Option (Int32) := (fX11_pairs_b4 N  m_tongue 0 0)
set_option maxRecDepth 20000 in
theorem inX11_pairs_X11 : ∀ w ∈ u_ws RX11 TX11 20, w ∈ wsX11_pairs := fun w h => by
  obtain ⟨k, hk, rfl⟩ := List.mem_map.mp h
  have hk2 := List.mem_range.mp hk
  exact List.mem_of_getElem? (i := 6 + k) (by rcases (show k = 0 ∨ k = 1 ∨ k = 2 ∨ k = 3 ∨ k = 4 ∨ k = 5 ∨ k = 6 ∨ k = 7 ∨ k = 8 ∨ k = 9 ∨ k = 10 ∨ k = 11 ∨ k = 12 ∨ k = 13 ∨ k = 14 ∨ k = 15 ∨ k = 16 ∨ k = 17 ∨ k = 18 ∨ k = 19 by omega) with rfl | rfl | rfl | rfl | rfl | rfl | rfl | rfl | rfl | rfl | rfl | rfl | rfl | rfl | rfl | rfl | rfl | rfl | rfl | rfl <;> rfl)
set_option maxRecDepth 100000 in
set_option maxHeartbeats 4000000 in
theorem tX11_pairs_b4 {p : Program} {l : Launch} {e : Env} {s : State} {m : MethodId} {args : Array Value} {below : List Frame} {meth : Method} {c : Code} {A : Nat → Prop} {dC : Nat → ClassId} {dI : Nat → Nat → Nat} {cI : ClassId} {q q_tongue q_refused q_fresh q_kept q_isKept q_text q_said q_talk : Nat} {m_thrown : Int32} {m_size : Int32} {m_at : Int32} {m_start : Int32} {m_token : Int32} {m_value : Int64} {m_faultAt : Int32} {m_allowed : Int32} {m_firstPair : Int32} {m_secondPair : Int32} {m_above : Int64} {m_below : Int64} {m_tongue : Nat → Int32} (C0 : gm_C p s m args meth c (dC, dI) [(cI, .int)] A gm_T RX11 cX11_pairs 3 (some .int) wsX11_pairs) {N : Nat} {out : Int32}   : ∀ (n : Nat), ∀ (x1 : Int32) (x2 : Int32) (H : Heap) (locs : List Loc) (ls : Array Slot), (gm_fix (fX11_pairs_b4_body N  m_tongue) (fun _ _ => none) n) x1 x2 = some out → gm_H (dC, dI) A s (wX11_pairs cI q q_tongue q_refused q_fresh q_kept q_isKept q_text q_said q_talk m_thrown m_size m_at m_start m_token m_value m_faultAt m_allowed m_firstPair m_secondPair m_above m_below m_tongue) H locs → lv_has ls 3 [(0, .ref q), (1, .int x1), (2, .int x2)] → W p l e rX11_pairs s m args below meth c H locs 0 0 (MQ below (gm_Q (dC, dI) [(cI, .int)] A (some (.int out)) (wX11_pairs cI q q_tongue q_refused q_fresh q_kept q_isKept q_text q_said q_talk m_thrown m_size m_at m_start m_token m_value m_faultAt m_allowed m_firstPair m_secondPair m_above m_below m_tongue)) args s 0 0 A) (F0 m 4 ls []) := by
  obtain ⟨hx, hb, hml, hr, hown, hts, hA, hK, hX, hlocks⟩ := id C0
  intro n
  induction n with
  | zero =>
    intro x1 x2 H locs ls h hH hl
    cases h
  | succ n hr4 =>
    intro x1 x2 H locs ls h hH hl
    rw [gm_fix_s] at h
    unfold fX11_pairs_b4_body at h
    refine lv_iload_n hx hb dX11_pairs_4 rfl (lv_at hl 2 rfl) ?_
    refine lv_bipush (v := 8) hx hb dX11_pairs_5 (by decide) ?_
    refine lv_icmp_ge (tgt := 31) hx hb dX11_pairs_7 (by decide) (fun hc1 => ?_) (fun hc1 => ?_)
    · replace h := gm_pos hc1 h
      refine lv_iload_n hx hb dX11_pairs_31 rfl (lv_at hl 1 rfl) ?_
      refine lv_iconst (v := 2) hx hb dX11_pairs_32 (by decide) ?_
      obtain ⟨hz2, h⟩ := gm_nz_e h
      refine lv_idiv hx hb dX11_pairs_33 hz2 ?_
      obtain rfl := Option.some.inj h
      exact gm_iret C0 hH dX11_pairs_34
    · replace h := gm_neg hc1 h
      refine lv_iload_n hx hb dX11_pairs_10 rfl (lv_at hl 1 rfl) ?_
      refine lv_aload_n hx hb dX11_pairs_11 rfl (lv_at hl 0 rfl) ?_
      refine gm_get (ci := 11) C0 hH inX11_pairs_X11 0 2 1 rfl rfl (by decide) rfl rfl dX11_pairs_12 ?_
      refine lv_bipush (v := 45) hx hb dX11_pairs_15 (by decide) ?_
      refine lv_iload_n hx hb dX11_pairs_17 rfl (lv_at hl 2 rfl) ?_
      refine lv_iadd hx hb dX11_pairs_18 ?_
      obtain ⟨hi3, h⟩ := gm_chk_e h
      refine gm_iald C0 hH hi3 1 0 rfl rfl dX11_pairs_19 ?_
      obtain ⟨o4, ho4, h⟩ := gm_bind_e h
      refine gm_callS (As := [.int (m_tongue (Int32.toNatClampNeg ((45 + x2))))]) (rest := [.int x1]) (n := 1) C0 hH (mX11_bits l dC dI    ((m_tongue (Int32.toNatClampNeg ((45 + x2)))))   ho4) gX11_pairs_X11_bits rfl (by decide +kernel) ⟨rfl, rfl, Nat.le_of_ble_eq_true rfl, Nat.le_of_ble_eq_true rfl⟩ gm_T_ok (fun _ => trivial) [] rfl rfl rfl [] rfl rfl hl.1 rfl (Nat.le_of_ble_eq_true rfl) dX11_pairs_20 ⟨Nat.zero_le _, Nat.zero_le _⟩ (fun H locs hH => ?_)
      have hH : gm_H (dC, dI) A s (wX11_pairs cI q q_tongue q_refused q_fresh q_kept q_isKept q_text q_said q_talk m_thrown m_size m_at m_start m_token m_value m_faultAt m_allowed m_firstPair m_secondPair m_above m_below m_tongue) H locs := hH
      refine lv_iadd hx hb dX11_pairs_23 ?_
      refine lv_topi (fun v5 ev5 => ?_)
      replace h := gm_let_e ev5 h
      refine lv_istore_n (lv' := [(1, .int v5), (0, .ref q), (2, .int x2)]) hx hb dX11_pairs_24 rfl hl (by decide) rfl (fun ls hl => ?_)
      refine lv_iinc (v := (x2 + 1)) (lv' := [(2, .int (x2 + 1)), (1, .int v5), (0, .ref q)]) hx hb dX11_pairs_25 hl (k := 2) rfl rfl (by decide) rfl (fun ls hl => ?_)
      refine lv_goto (tgt := 4) hx hb dX11_pairs_28 (by decide) ?_
      exact hr4 _ _ _ _ _ h hH (lv_sub hl [2, 1, 0] rfl)
set_option maxRecDepth 100000 in
set_option maxHeartbeats 4000000 in
theorem mX11_pairs (l : Launch) (dC : Nat → ClassId) (dI : Nat → Nat → Nat) (cI : ClassId) (q q_tongue q_refused q_fresh q_kept q_isKept q_text q_said q_talk : Nat) (m_thrown : Int32) (m_size : Int32) (m_at : Int32) (m_start : Int32) (m_token : Int32) (m_value : Int64) (m_faultAt : Int32) (m_allowed : Int32) (m_firstPair : Int32) (m_secondPair : Int32) (m_above : Int64) (m_below : Int64) (m_tongue : Nat → Int32)   {N : Nat} {out : Int32} (h : fX11_pairs N m_tongue = some out) : gm_Met l yX11_pairs wsX11_pairs rX11_pairs (dC, dI) [(cI, .int)] gm_T [.ref q] (wX11_pairs cI q q_tongue q_refused q_fresh q_kept q_isKept q_text q_said q_talk m_thrown m_size m_at m_start m_token m_value m_faultAt m_allowed m_firstPair m_secondPair m_above m_below m_tongue) (some (.int out)) (wX11_pairs cI q q_tongue q_refused q_fresh q_kept q_isKept q_text q_said q_talk m_thrown m_size m_at m_start m_token m_value m_faultAt m_allowed m_firstPair m_secondPair m_above m_below m_tongue) := by
  refine gm_ofW (cc := cX11_pairs) (maxL := 3) (ret := (some .int)) (by decide +kernel) rfl (Nat.le_of_ble_eq_true rfl) ?_
  intro p e s m below meth c A C0 hH ls hl
  generalize ([.ref q] : List Value).toArray = args at C0 ⊢
  have hl : lv_has ls 3 [(0, .ref q)] := hl
  generalize s.heap = H at hH ⊢
  generalize ([] : List Loc) = locs at hH ⊢
  obtain ⟨hx, hb, hml, hr, hown, hts, hA, hK, hX, hlocks⟩ := id C0
  unfold fX11_pairs at h
  refine lv_iconst (v := 0) hx hb dX11_pairs_0 (by decide) ?_
  refine lv_istore_n (lv' := [(1, .int 0), (0, .ref q)]) hx hb dX11_pairs_1 rfl hl (by decide) rfl (fun ls hl => ?_)
  refine lv_iconst (v := 0) hx hb dX11_pairs_2 (by decide) ?_
  refine lv_istore_n (lv' := [(2, .int 0), (1, .int 0), (0, .ref q)]) hx hb dX11_pairs_3 rfl hl (by decide) rfl (fun ls hl => ?_)
  unfold fX11_pairs_b4 at h
  exact tX11_pairs_b4 C0  _ _ _ _ _ _ h hH (lv_sub hl [2, 1, 0] rfl)

/-! X11_countOf -/
abbrev wX11_countOf (cI : ClassId) (q q_tongue q_refused q_fresh q_kept q_isKept q_text q_said q_talk : Nat) (m_thrown : Int32) (m_size : Int32) (m_at : Int32) (m_start : Int32) (m_token : Int32) (m_value : Int64) (m_faultAt : Int32) (m_allowed : Int32) (m_firstPair : Int32) (m_secondPair : Int32) (m_above : Int64) (m_below : Int64) (m_tongue : Nat → Int32) : va_W := [(q, .inr (11, [.int m_thrown, .ref q_refused, .ref q_tongue, .ref q_fresh, .ref q_kept, .ref q_isKept, .ref q_text, .int m_size, .int m_at, .int m_start, .int m_token, .long m_value, .int m_faultAt, .ref q_said, .ref q_talk, .int m_allowed, .int m_firstPair, .int m_secondPair, .long m_above, .long m_below])), (q_tongue, .inl (cI, 73, .inl m_tongue))]
abbrev rX11_countOf : Room := { frames := 2, cells := 0, slots := 0, locals := 44 }
def fX11_countOf (N : Nat) (m_size : Int32) (m_tongue : Nat → Int32) (x1 : Int32) : Option (Int32) := (if x1 = 0 then gm_chk 0 73 (some ((m_tongue (Int32.toNatClampNeg 0)))) else (if x1 = 1 then gm_chk 1 73 (some ((m_tongue (Int32.toNatClampNeg 1)))) else (if x1 = 2 then gm_bind (fX11_pairs N m_tongue) (fun o4 => some (o4)) else (if x1 = 3 then gm_chk 2 73 (gm_bind (fX11_bits N ((m_tongue (Int32.toNatClampNeg 2)))) (fun o6 => some (o6))) else (if x1 = 4 then gm_chk 3 73 (some ((m_tongue (Int32.toNatClampNeg 3)))) else (if x1 = 5 then gm_chk 4 73 (some ((m_tongue (Int32.toNatClampNeg 4)))) else some (m_size)))))))
set_option maxRecDepth 20000 in
theorem inX11_countOf_X11 : ∀ w ∈ u_ws RX11 TX11 20, w ∈ wsX11_countOf := fun w h => by
  obtain ⟨k, hk, rfl⟩ := List.mem_map.mp h
  have hk2 := List.mem_range.mp hk
  exact List.mem_of_getElem? (i := 11 + k) (by rcases (show k = 0 ∨ k = 1 ∨ k = 2 ∨ k = 3 ∨ k = 4 ∨ k = 5 ∨ k = 6 ∨ k = 7 ∨ k = 8 ∨ k = 9 ∨ k = 10 ∨ k = 11 ∨ k = 12 ∨ k = 13 ∨ k = 14 ∨ k = 15 ∨ k = 16 ∨ k = 17 ∨ k = 18 ∨ k = 19 by omega) with rfl | rfl | rfl | rfl | rfl | rfl | rfl | rfl | rfl | rfl | rfl | rfl | rfl | rfl | rfl | rfl | rfl | rfl | rfl | rfl <;> rfl)
set_option maxRecDepth 100000 in
set_option maxHeartbeats 4000000 in
theorem mX11_countOf (l : Launch) (dC : Nat → ClassId) (dI : Nat → Nat → Nat) (cI : ClassId) (q q_tongue q_refused q_fresh q_kept q_isKept q_text q_said q_talk : Nat) (m_thrown : Int32) (m_size : Int32) (m_at : Int32) (m_start : Int32) (m_token : Int32) (m_value : Int64) (m_faultAt : Int32) (m_allowed : Int32) (m_firstPair : Int32) (m_secondPair : Int32) (m_above : Int64) (m_below : Int64) (m_tongue : Nat → Int32) (x1 : Int32)  {N : Nat} {out : Int32} (h : fX11_countOf N m_size m_tongue x1 = some out) : gm_Met l yX11_countOf wsX11_countOf rX11_countOf (dC, dI) [(cI, .int)] gm_T [.ref q, .int x1] (wX11_countOf cI q q_tongue q_refused q_fresh q_kept q_isKept q_text q_said q_talk m_thrown m_size m_at m_start m_token m_value m_faultAt m_allowed m_firstPair m_secondPair m_above m_below m_tongue) (some (.int out)) (wX11_countOf cI q q_tongue q_refused q_fresh q_kept q_isKept q_text q_said q_talk m_thrown m_size m_at m_start m_token m_value m_faultAt m_allowed m_firstPair m_secondPair m_above m_below m_tongue) := by
  refine gm_ofW (cc := cX11_countOf) (maxL := 2) (ret := (some .int)) (by decide +kernel) rfl (Nat.le_of_ble_eq_true rfl) ?_
  intro p e s m below meth c A C0 hH ls hl
  generalize ([.ref q, .int x1] : List Value).toArray = args at C0 ⊢
  have hl : lv_has ls 2 [(0, .ref q), (1, .int x1)] := hl
  generalize s.heap = H at hH ⊢
  generalize ([] : List Loc) = locs at hH ⊢
  obtain ⟨hx, hb, hml, hr, hown, hts, hA, hK, hX, hlocks⟩ := id C0
  unfold fX11_countOf at h
  refine lv_iload_n hx hb dX11_countOf_0 rfl (lv_at hl 1 rfl) ?_
  by_cases hs1_0 : x1 = 0
  · replace h := gm_pos hs1_0 h
    refine lv_tableIn (tgt := 40) (off := 39) hx hb dX11_countOf_1 (by rw [hs1_0]; decide) (by rw [hs1_0]; decide) (by rw [hs1_0]; decide) (by decide) ?_
    refine lv_aload_n hx hb dX11_countOf_40 rfl (lv_at hl 0 rfl) ?_
    refine gm_get (ci := 11) C0 hH inX11_countOf_X11 0 2 1 rfl rfl (by decide) rfl rfl dX11_countOf_41 ?_
    refine lv_iconst (v := 0) hx hb dX11_countOf_44 (by decide) ?_
    obtain ⟨hi2, h⟩ := gm_chk_e h
    refine gm_iald C0 hH hi2 1 0 rfl rfl dX11_countOf_45 ?_
    obtain rfl := Option.some.inj h
    exact gm_iret C0 hH dX11_countOf_46
  · replace h := gm_neg hs1_0 h
    by_cases hs1_1 : x1 = 1
    · replace h := gm_pos hs1_1 h
      refine lv_tableIn (tgt := 47) (off := 46) hx hb dX11_countOf_1 (by rw [hs1_1]; decide) (by rw [hs1_1]; decide) (by rw [hs1_1]; decide) (by decide) ?_
      refine lv_aload_n hx hb dX11_countOf_47 rfl (lv_at hl 0 rfl) ?_
      refine gm_get (ci := 11) C0 hH inX11_countOf_X11 0 2 1 rfl rfl (by decide) rfl rfl dX11_countOf_48 ?_
      refine lv_iconst (v := 1) hx hb dX11_countOf_51 (by decide) ?_
      obtain ⟨hi3, h⟩ := gm_chk_e h
      refine gm_iald C0 hH hi3 1 0 rfl rfl dX11_countOf_52 ?_
      obtain rfl := Option.some.inj h
      exact gm_iret C0 hH dX11_countOf_53
    · replace h := gm_neg hs1_1 h
      by_cases hs1_2 : x1 = 2
      · replace h := gm_pos hs1_2 h
        refine lv_tableIn (tgt := 54) (off := 53) hx hb dX11_countOf_1 (by rw [hs1_2]; decide) (by rw [hs1_2]; decide) (by rw [hs1_2]; decide) (by decide) ?_
        refine lv_aload_n hx hb dX11_countOf_54 rfl (lv_at hl 0 rfl) ?_
        obtain ⟨o4, ho4, h⟩ := gm_bind_e h
        refine gm_callV (As := []) (rest := []) (n := 0) (ci := 11) (q0 := 0) C0 hH (mX11_pairs l dC dI cI q q_tongue q_refused q_fresh q_kept q_isKept q_text q_said q_talk m_thrown m_size m_at m_start m_token m_value m_faultAt m_allowed m_firstPair m_secondPair m_above m_below m_tongue    ho4) gX11_countOf_X11_pairs rfl (by decide +kernel) ⟨rfl, rfl, Nat.le_of_ble_eq_true rfl, Nat.le_of_ble_eq_true rfl⟩ gm_T_ok (fun _ => trivial) [0, 1] rfl rfl rfl [0] rfl rfl rfl rfl hl.1 rfl (Nat.le_of_ble_eq_true rfl) dX11_countOf_55 ⟨Nat.zero_le _, Nat.zero_le _⟩ (fun H locs hH => ?_)
        have hH : gm_H (dC, dI) A s (wX11_countOf cI q q_tongue q_refused q_fresh q_kept q_isKept q_text q_said q_talk m_thrown m_size m_at m_start m_token m_value m_faultAt m_allowed m_firstPair m_secondPair m_above m_below m_tongue) H locs := hH
        obtain rfl := Option.some.inj h
        exact gm_iret C0 hH dX11_countOf_58
      · replace h := gm_neg hs1_2 h
        by_cases hs1_3 : x1 = 3
        · replace h := gm_pos hs1_3 h
          refine lv_tableIn (tgt := 59) (off := 58) hx hb dX11_countOf_1 (by rw [hs1_3]; decide) (by rw [hs1_3]; decide) (by rw [hs1_3]; decide) (by decide) ?_
          refine lv_aload_n hx hb dX11_countOf_59 rfl (lv_at hl 0 rfl) ?_
          refine gm_get (ci := 11) C0 hH inX11_countOf_X11 0 2 1 rfl rfl (by decide) rfl rfl dX11_countOf_60 ?_
          refine lv_iconst (v := 2) hx hb dX11_countOf_63 (by decide) ?_
          obtain ⟨hi5, h⟩ := gm_chk_e h
          refine gm_iald C0 hH hi5 1 0 rfl rfl dX11_countOf_64 ?_
          obtain ⟨o6, ho6, h⟩ := gm_bind_e h
          refine gm_callS (As := [.int (m_tongue (Int32.toNatClampNeg 2))]) (rest := []) (n := 1) C0 hH (mX11_bits l dC dI    ((m_tongue (Int32.toNatClampNeg 2)))   ho6) gX11_countOf_X11_bits rfl (by decide +kernel) ⟨rfl, rfl, Nat.le_of_ble_eq_true rfl, Nat.le_of_ble_eq_true rfl⟩ gm_T_ok (fun _ => trivial) [] rfl rfl rfl [] rfl rfl hl.1 rfl (Nat.le_of_ble_eq_true rfl) dX11_countOf_65 ⟨Nat.zero_le _, Nat.zero_le _⟩ (fun H locs hH => ?_)
          have hH : gm_H (dC, dI) A s (wX11_countOf cI q q_tongue q_refused q_fresh q_kept q_isKept q_text q_said q_talk m_thrown m_size m_at m_start m_token m_value m_faultAt m_allowed m_firstPair m_secondPair m_above m_below m_tongue) H locs := hH
          obtain rfl := Option.some.inj h
          exact gm_iret C0 hH dX11_countOf_68
        · replace h := gm_neg hs1_3 h
          by_cases hs1_4 : x1 = 4
          · replace h := gm_pos hs1_4 h
            refine lv_tableIn (tgt := 69) (off := 68) hx hb dX11_countOf_1 (by rw [hs1_4]; decide) (by rw [hs1_4]; decide) (by rw [hs1_4]; decide) (by decide) ?_
            refine lv_aload_n hx hb dX11_countOf_69 rfl (lv_at hl 0 rfl) ?_
            refine gm_get (ci := 11) C0 hH inX11_countOf_X11 0 2 1 rfl rfl (by decide) rfl rfl dX11_countOf_70 ?_
            refine lv_iconst (v := 3) hx hb dX11_countOf_73 (by decide) ?_
            obtain ⟨hi7, h⟩ := gm_chk_e h
            refine gm_iald C0 hH hi7 1 0 rfl rfl dX11_countOf_74 ?_
            obtain rfl := Option.some.inj h
            exact gm_iret C0 hH dX11_countOf_75
          · replace h := gm_neg hs1_4 h
            by_cases hs1_5 : x1 = 5
            · replace h := gm_pos hs1_5 h
              refine lv_tableIn (tgt := 76) (off := 75) hx hb dX11_countOf_1 (by rw [hs1_5]; decide) (by rw [hs1_5]; decide) (by rw [hs1_5]; decide) (by decide) ?_
              refine lv_aload_n hx hb dX11_countOf_76 rfl (lv_at hl 0 rfl) ?_
              refine gm_get (ci := 11) C0 hH inX11_countOf_X11 0 2 1 rfl rfl (by decide) rfl rfl dX11_countOf_77 ?_
              refine lv_iconst (v := 4) hx hb dX11_countOf_80 (by decide) ?_
              obtain ⟨hi8, h⟩ := gm_chk_e h
              refine gm_iald C0 hH hi8 1 0 rfl rfl dX11_countOf_81 ?_
              obtain rfl := Option.some.inj h
              exact gm_iret C0 hH dX11_countOf_82
            · replace h := gm_neg hs1_5 h
              refine lv_tableOut (tgt := 83) hx hb dX11_countOf_1 (by have hj0 := lv_neT hs1_0 (a := 0) rfl; have hj1 := lv_neT hs1_1 (a := 1) rfl; have hj2 := lv_neT hs1_2 (a := 2) rfl; have hj3 := lv_neT hs1_3 (a := 3) rfl; have hj4 := lv_neT hs1_4 (a := 4) rfl; have hj5 := lv_neT hs1_5 (a := 5) rfl; omega) (by decide) ?_
              refine lv_aload_n hx hb dX11_countOf_83 rfl (lv_at hl 0 rfl) ?_
              refine gm_get (ci := 11) C0 hH inX11_countOf_X11 0 7 2 rfl rfl (by decide) rfl rfl dX11_countOf_84 ?_
              obtain rfl := Option.some.inj h
              exact gm_iret C0 hH dX11_countOf_87

/-! X11_count -/
abbrev wX11_count (cI : ClassId) (q q_refused q_tongue q_fresh q_kept q_isKept q_text q_said q_talk : Nat) (m_thrown : Int32) (m_size : Int32) (m_at : Int32) (m_start : Int32) (m_token : Int32) (m_value : Int64) (m_faultAt : Int32) (m_allowed : Int32) (m_firstPair : Int32) (m_secondPair : Int32) (m_above : Int64) (m_below : Int64) (m_refused : Nat → Int32) (m_tongue : Nat → Int32) : va_W := [(q, .inr (11, [.int m_thrown, .ref q_refused, .ref q_tongue, .ref q_fresh, .ref q_kept, .ref q_isKept, .ref q_text, .int m_size, .int m_at, .int m_start, .int m_token, .long m_value, .int m_faultAt, .ref q_said, .ref q_talk, .int m_allowed, .int m_firstPair, .int m_secondPair, .long m_above, .long m_below])), (q_refused, .inl (cI, 3, .inl m_refused)), (q_tongue, .inl (cI, 73, .inl m_tongue))]
abbrev rX11_count : Room := { frames := 3, cells := 0, slots := 0, locals := 65 }
def fX11_count (N : Nat) (m_thrown : Int32) (m_size : Int32) (m_refused : Nat → Int32) (m_tongue : Nat → Int32) (x1 : Int32) : Option (Int32 × Int32 × (Nat → Int32)) := gm_bind (fX11_in N ((Int32.toInt64 x1)) 0 6) (fun o1 => (if o1 = 0 then gm_bind (fX11_bad N m_refused) (fun o3 => some (o3.1, 0, o3.2)) else gm_bind (fX11_countOf N m_size m_tongue x1) (fun o4 => some (o4, 0, m_refused))))
set_option maxRecDepth 20000 in
theorem inX11_count_X11 : ∀ w ∈ u_ws RX11 TX11 20, w ∈ wsX11_count := fun w h => by
  obtain ⟨k, hk, rfl⟩ := List.mem_map.mp h
  have hk2 := List.mem_range.mp hk
  exact List.mem_of_getElem? (i := 29 + k) (by rcases (show k = 0 ∨ k = 1 ∨ k = 2 ∨ k = 3 ∨ k = 4 ∨ k = 5 ∨ k = 6 ∨ k = 7 ∨ k = 8 ∨ k = 9 ∨ k = 10 ∨ k = 11 ∨ k = 12 ∨ k = 13 ∨ k = 14 ∨ k = 15 ∨ k = 16 ∨ k = 17 ∨ k = 18 ∨ k = 19 by omega) with rfl | rfl | rfl | rfl | rfl | rfl | rfl | rfl | rfl | rfl | rfl | rfl | rfl | rfl | rfl | rfl | rfl | rfl | rfl | rfl <;> rfl)
set_option maxRecDepth 100000 in
set_option maxHeartbeats 4000000 in
theorem mX11_count (l : Launch) (dC : Nat → ClassId) (dI : Nat → Nat → Nat) (cI : ClassId) (q q_refused q_tongue q_fresh q_kept q_isKept q_text q_said q_talk : Nat) (m_thrown : Int32) (m_size : Int32) (m_at : Int32) (m_start : Int32) (m_token : Int32) (m_value : Int64) (m_faultAt : Int32) (m_allowed : Int32) (m_firstPair : Int32) (m_secondPair : Int32) (m_above : Int64) (m_below : Int64) (m_refused : Nat → Int32) (m_tongue : Nat → Int32) (x1 : Int32)  {N : Nat} {out : Int32 × Int32 × (Nat → Int32)} (h : fX11_count N m_thrown m_size m_refused m_tongue x1 = some out) : gm_Met l yX11_count wsX11_count rX11_count (dC, dI) [(cI, .int)] gm_T [.ref q, .int x1] (wX11_count cI q q_refused q_tongue q_fresh q_kept q_isKept q_text q_said q_talk m_thrown m_size m_at m_start m_token m_value m_faultAt m_allowed m_firstPair m_secondPair m_above m_below m_refused m_tongue) (some (.int out.1)) (wX11_count cI q q_refused q_tongue q_fresh q_kept q_isKept q_text q_said q_talk out.2.1 m_size m_at m_start m_token m_value m_faultAt m_allowed m_firstPair m_secondPair m_above m_below out.2.2 m_tongue) := by
  refine gm_ofW (cc := cX11_count) (maxL := 2) (ret := (some .int)) (by decide +kernel) rfl (Nat.le_of_ble_eq_true rfl) ?_
  intro p e s m below meth c A C0 hH ls hl
  generalize ([.ref q, .int x1] : List Value).toArray = args at C0 ⊢
  have hl : lv_has ls 2 [(0, .ref q), (1, .int x1)] := hl
  generalize s.heap = H at hH ⊢
  generalize ([] : List Loc) = locs at hH ⊢
  obtain ⟨hx, hb, hml, hr, hown, hts, hA, hK, hX, hlocks⟩ := id C0
  unfold fX11_count at h
  refine lv_aload_n hx hb dX11_count_0 rfl (lv_at hl 0 rfl) ?_
  refine lv_iconst (v := 0) hx hb dX11_count_1 (by decide) ?_
  refine gm_putf (ci := 11) C0 hH inX11_count_X11 tyX11_ok nmX11 0 0 1 rfl rfl (by decide) rfl rfl rfl rfl rfl (Nat.le_of_ble_eq_true rfl) dX11_count_2 (fun H locs hH => ?_)
  have hH : gm_H (dC, dI) A s (wX11_count cI q q_refused q_tongue q_fresh q_kept q_isKept q_text q_said q_talk 0 m_size m_at m_start m_token m_value m_faultAt m_allowed m_firstPair m_secondPair m_above m_below m_refused m_tongue) H locs := hH
  refine lv_iload_n hx hb dX11_count_5 rfl (lv_at hl 1 rfl) ?_
  refine lv_i2l hx hb dX11_count_6 rfl ?_
  refine lv_lconst (v := 0) hx hb dX11_count_7 (by decide) ?_
  refine lv_ldc2 (own := RX11) (v := 6) hx hb hown (gm_at C0 2 rfl) dX11_count_8 ?_
  obtain ⟨o1, ho1, h⟩ := gm_bind_e h
  refine gm_callS (As := [.long (Int32.toInt64 x1), .long 0, .long 6]) (rest := []) (n := 3) C0 hH (mX11_in l dC dI    ((Int32.toInt64 x1)) 0 6   ho1) gX11_count_X11_in rfl (by decide +kernel) ⟨rfl, rfl, Nat.le_of_ble_eq_true rfl, Nat.le_of_ble_eq_true rfl⟩ gm_T_ok (fun _ => trivial) [] rfl rfl rfl [] rfl rfl hl.1 rfl (Nat.le_of_ble_eq_true rfl) dX11_count_11 ⟨Nat.zero_le _, Nat.zero_le _⟩ (fun H locs hH => ?_)
  have hH : gm_H (dC, dI) A s (wX11_count cI q q_refused q_tongue q_fresh q_kept q_isKept q_text q_said q_talk 0 m_size m_at m_start m_token m_value m_faultAt m_allowed m_firstPair m_secondPair m_above m_below m_refused m_tongue) H locs := hH
  refine lv_if_eq (tgt := 25) hx hb dX11_count_14 (by decide) (fun hc2 => ?_) (fun hc2 => ?_)
  · replace h := gm_pos hc2 h
    refine lv_aload_n hx hb dX11_count_25 rfl (lv_at hl 0 rfl) ?_
    obtain ⟨o3, ho3, h⟩ := gm_bind_e h
    refine gm_callV (As := []) (rest := []) (n := 0) (ci := 11) (q0 := 0) C0 hH (mX11_bad l dC dI cI q q_refused q_tongue q_fresh q_kept q_isKept q_text q_said q_talk 0 m_size m_at m_start m_token m_value m_faultAt m_allowed m_firstPair m_secondPair m_above m_below m_refused    ho3) gX11_count_X11_bad rfl (by decide +kernel) ⟨rfl, rfl, Nat.le_of_ble_eq_true rfl, Nat.le_of_ble_eq_true rfl⟩ gm_T_ok (fun _ => trivial) [0, 1] rfl rfl rfl [0] rfl rfl rfl rfl hl.1 rfl (Nat.le_of_ble_eq_true rfl) dX11_count_26 ⟨Nat.zero_le _, Nat.zero_le _⟩ (fun H locs hH => ?_)
    have hH : gm_H (dC, dI) A s (wX11_count cI q q_refused q_tongue q_fresh q_kept q_isKept q_text q_said q_talk 0 m_size m_at m_start m_token m_value m_faultAt m_allowed m_firstPair m_secondPair m_above m_below o3.2 m_tongue) H locs := hH
    obtain rfl := Option.some.inj h
    exact gm_iret C0 hH dX11_count_29
  · replace h := gm_neg hc2 h
    refine lv_aload_n hx hb dX11_count_17 rfl (lv_at hl 0 rfl) ?_
    refine lv_iload_n hx hb dX11_count_18 rfl (lv_at hl 1 rfl) ?_
    obtain ⟨o4, ho4, h⟩ := gm_bind_e h
    refine gm_callV (As := [.int x1]) (rest := []) (n := 1) (ci := 11) (q0 := 0) C0 hH (mX11_countOf l dC dI cI q q_tongue q_refused q_fresh q_kept q_isKept q_text q_said q_talk 0 m_size m_at m_start m_token m_value m_faultAt m_allowed m_firstPair m_secondPair m_above m_below m_tongue x1   ho4) gX11_count_X11_countOf rfl (by decide +kernel) ⟨rfl, rfl, Nat.le_of_ble_eq_true rfl, Nat.le_of_ble_eq_true rfl⟩ gm_T_ok (fun _ => trivial) [0, 2] rfl rfl rfl [0] rfl rfl rfl rfl hl.1 rfl (Nat.le_of_ble_eq_true rfl) dX11_count_19 ⟨Nat.zero_le _, Nat.zero_le _⟩ (fun H locs hH => ?_)
    have hH : gm_H (dC, dI) A s (wX11_count cI q q_refused q_tongue q_fresh q_kept q_isKept q_text q_said q_talk 0 m_size m_at m_start m_token m_value m_faultAt m_allowed m_firstPair m_secondPair m_above m_below m_refused m_tongue) H locs := hH
    refine lv_goto (tgt := 29) hx hb dX11_count_22 (by decide) ?_
    obtain rfl := Option.some.inj h
    exact gm_iret C0 hH dX11_count_29

/-! X11_more -/
abbrev rX11_more : Room := { frames := 0, cells := 0, slots := 0, locals := 0 }
def fX11_more (N : Nat)  (x1 : Int64) (x3 : Int64) : Option (Int64) := some (((31 * x1) + x3))
set_option maxRecDepth 100000 in
set_option maxHeartbeats 4000000 in
theorem mX11_more (l : Launch) (dC : Nat → ClassId) (dI : Nat → Nat → Nat) (q : Nat)  (x1 : Int64) (x3 : Int64)  {N : Nat} {out : Int64} (h : fX11_more N x1 x3 = some out) : gm_Met l yX11_more wsX11_more rX11_more (dC, dI) [] gm_T [.ref q, .long x1, .long x3] ([] : va_W) (some (.long out)) ([] : va_W) := by
  refine gm_ofW (cc := cX11_more) (maxL := 5) (ret := (some .long)) (by decide +kernel) rfl (Nat.le_of_ble_eq_true rfl) ?_
  intro p e s m below meth c A C0 hH ls hl
  generalize ([.ref q, .long x1, .long x3] : List Value).toArray = args at C0 ⊢
  have hl : lv_has ls 5 [(0, .ref q), (1, .long x1), (3, .long x3)] := hl
  generalize s.heap = H at hH ⊢
  generalize ([] : List Loc) = locs at hH ⊢
  obtain ⟨hx, hb, hml, hr, hown, hts, hA, hK, hX, hlocks⟩ := id C0
  unfold fX11_more at h
  refine lv_ldc2 (own := RX11) (v := 31) hx hb hown (gm_at C0 1 rfl) dX11_more_0 ?_
  refine lv_lload_n hx hb dX11_more_3 rfl (lv_at hl 1 rfl) ?_
  refine lv_lmul hx hb dX11_more_4 ?_
  refine lv_lload_n hx hb dX11_more_5 rfl (lv_at hl 2 rfl) ?_
  refine lv_ladd hx hb dX11_more_6 ?_
  obtain rfl := Option.some.inj h
  exact gm_lret C0 hH dX11_more_7

/-! X11_digest -/
abbrev wX11_digest (cI : ClassId) (q q_tongue q_refused q_fresh q_kept q_isKept q_text q_said q_talk : Nat) (m_thrown : Int32) (m_size : Int32) (m_at : Int32) (m_start : Int32) (m_token : Int32) (m_value : Int64) (m_faultAt : Int32) (m_allowed : Int32) (m_firstPair : Int32) (m_secondPair : Int32) (m_above : Int64) (m_below : Int64) (m_tongue : Nat → Int32) : va_W := [(q, .inr (11, [.int m_thrown, .ref q_refused, .ref q_tongue, .ref q_fresh, .ref q_kept, .ref q_isKept, .ref q_text, .int m_size, .int m_at, .int m_start, .int m_token, .long m_value, .int m_faultAt, .ref q_said, .ref q_talk, .int m_allowed, .int m_firstPair, .int m_secondPair, .long m_above, .long m_below])), (q_tongue, .inl (cI, 73, .inl m_tongue))]
abbrev rX11_digest : Room := { frames := 3, cells := 0, slots := 0, locals := 65 }
def fX11_digest_b230 (N : Nat)  (m_thrown : Int32) (m_above : Int64) (m_below : Int64) (x1 : Int64) : Option (Int64 × Int32) := gm_bind (fX11_more N x1 m_above) (fun o9 => gm_bind (fX11_more N o9 m_below) (fun o10 => some (o10, m_thrown)))
def fX11_digest_b196_body (N : Nat)  (m_thrown : Int32) (m_above : Int64) (m_below : Int64) (m_tongue : Nat → Int32) (r196 : Int64 → Int32 → Option (Int64 × Int32)) (x1 : Int64) (x3 : Int32) : Option (Int64 × Int32) := gm_chk 3 73 ((if (2 * (m_tongue (Int32.toNatClampNeg 3))) ≤ x3 then (fX11_digest_b230 N  m_thrown m_above m_below x1) else gm_chk ((53 + x3)) 73 (gm_bind (fX11_more N x1 ((Int32.toInt64 (m_tongue (Int32.toNatClampNeg ((53 + x3))))))) (fun o12 => (r196 o12 ((x3 + 1)))))))
def fX11_digest_b196 (N : Nat)  (m_thrown : Int32) (m_above : Int64) (m_below : Int64) (m_tongue : Nat → Int32) (x1 : Int64) (x3 : Int32) : Option (Int64 × Int32) := gm_fix (fX11_digest_b196_body N  m_thrown m_above m_below m_tongue) (fun _ _ => none) N x1 x3
def fX11_digest_b194 (N : Nat)  (m_thrown : Int32) (m_above : Int64) (m_below : Int64) (m_tongue : Nat → Int32) (x1 : Int64) : Option (Int64 × Int32) := (fX11_digest_b196 N  m_thrown m_above m_below m_tongue x1 0)
def fX11_digest_b160_body (N : Nat)  (m_thrown : Int32) (m_above : Int64) (m_below : Int64) (m_tongue : Nat → Int32) (r160 : Int64 → Int32 → Option (Int64 × Int32)) (x1 : Int64) (x3 : Int32) : Option (Int64 × Int32) := gm_chk 1 73 ((if (2 * (m_tongue (Int32.toNatClampNeg 1))) ≤ x3 then (fX11_digest_b194 N  m_thrown m_above m_below m_tongue x1) else gm_chk ((35 + x3)) 73 (gm_bind (fX11_more N x1 ((Int32.toInt64 (m_tongue (Int32.toNatClampNeg ((35 + x3))))))) (fun o14 => (r160 o14 ((x3 + 1)))))))
def fX11_digest_b160 (N : Nat)  (m_thrown : Int32) (m_above : Int64) (m_below : Int64) (m_tongue : Nat → Int32) (x1 : Int64) (x3 : Int32) : Option (Int64 × Int32) := gm_fix (fX11_digest_b160_body N  m_thrown m_above m_below m_tongue) (fun _ _ => none) N x1 x3
def fX11_digest_b158 (N : Nat)  (m_thrown : Int32) (m_above : Int64) (m_below : Int64) (m_tongue : Nat → Int32) (x1 : Int64) : Option (Int64 × Int32) := (fX11_digest_b160 N  m_thrown m_above m_below m_tongue x1 0)
def fX11_digest_b152 (N : Nat) (r107 : Int64 → Int32 → Option (Int64 × Int32)) (m_thrown : Int32) (m_above : Int64) (m_below : Int64) (m_tongue : Nat → Int32) (x1 : Int64) (x3 : Int32) : Option (Int64 × Int32) := (r107 x1 ((x3 + 1)))
def fX11_digest_b118_body (N : Nat) (r107 : Int64 → Int32 → Option (Int64 × Int32)) (m_thrown : Int32) (m_above : Int64) (m_below : Int64) (m_tongue : Nat → Int32) (x3 : Int32) (r118 : Int64 → Int32 → Option (Int64 × Int32)) (x1 : Int64) (x4 : Int32) : Option (Int64 × Int32) := (if 8 ≤ x4 then (fX11_digest_b152 N r107 m_thrown m_above m_below m_tongue x1 x3) else gm_chk ((45 + x3)) 73 (gm_bind (fX11_more N x1 ((Int32.toInt64 (((m_tongue (Int32.toNatClampNeg ((45 + x3)))) >>> (x4 &&& 31)) &&& 1)))) (fun o18 => (r118 o18 ((x4 + 1))))))
def fX11_digest_b118 (N : Nat) (r107 : Int64 → Int32 → Option (Int64 × Int32)) (m_thrown : Int32) (m_above : Int64) (m_below : Int64) (m_tongue : Nat → Int32) (x3 : Int32) (x1 : Int64) (x4 : Int32) : Option (Int64 × Int32) := gm_fix (fX11_digest_b118_body N r107 m_thrown m_above m_below m_tongue x3) (fun _ _ => none) N x1 x4
def fX11_digest_b107_body (N : Nat)  (m_thrown : Int32) (m_above : Int64) (m_below : Int64) (m_tongue : Nat → Int32) (r107 : Int64 → Int32 → Option (Int64 × Int32)) (x1 : Int64) (x3 : Int32) : Option (Int64 × Int32) := (if 8 ≤ x3 then (fX11_digest_b158 N  m_thrown m_above m_below m_tongue x1) else gm_let ((x3 + 1) : Int32) (fun (v15 : Int32) => (fX11_digest_b118 N r107 m_thrown m_above m_below m_tongue x3 x1 v15)))
def fX11_digest_b107 (N : Nat)  (m_thrown : Int32) (m_above : Int64) (m_below : Int64) (m_tongue : Nat → Int32) (x1 : Int64) (x3 : Int32) : Option (Int64 × Int32) := gm_fix (fX11_digest_b107_body N  m_thrown m_above m_below m_tongue) (fun _ _ => none) N x1 x3
def fX11_digest_b105 (N : Nat)  (m_thrown : Int32) (m_above : Int64) (m_below : Int64) (m_tongue : Nat → Int32) (x1 : Int64) : Option (Int64 × Int32) := (fX11_digest_b107 N  m_thrown m_above m_below m_tongue x1 0)
def fX11_digest_b82 (N : Nat) (r37 : Int64 → Int32 → Option (Int64 × Int32)) (m_thrown : Int32) (m_above : Int64) (m_below : Int64) (m_tongue : Nat → Int32) (x1 : Int64) (x3 : Int32) : Option (Int64 × Int32) := gm_chk 2 73 (gm_bind (fX11_more N x1 ((Int32.toInt64 (((m_tongue (Int32.toNatClampNeg 2)) >>> (x3 &&& 31)) &&& 1)))) (fun o21 => (r37 o21 ((x3 + 1)))))
def fX11_digest_b50_body (N : Nat) (r37 : Int64 → Int32 → Option (Int64 × Int32)) (m_thrown : Int32) (m_above : Int64) (m_below : Int64) (m_tongue : Nat → Int32) (x3 : Int32) (r50 : Int64 → Int32 → Option (Int64 × Int32)) (x1 : Int64) (x4 : Int32) : Option (Int64 × Int32) := (if 3 ≤ x4 then (fX11_digest_b82 N r37 m_thrown m_above m_below m_tongue x1 x3) else gm_chk (((5 + (3 * x3)) + x4)) 73 (gm_bind (fX11_more N x1 ((Int32.toInt64 (m_tongue (Int32.toNatClampNeg (((5 + (3 * x3)) + x4))))))) (fun o23 => (r50 o23 ((x4 + 1))))))
def fX11_digest_b50 (N : Nat) (r37 : Int64 → Int32 → Option (Int64 × Int32)) (m_thrown : Int32) (m_above : Int64) (m_below : Int64) (m_tongue : Nat → Int32) (x3 : Int32) (x1 : Int64) (x4 : Int32) : Option (Int64 × Int32) := gm_fix (fX11_digest_b50_body N r37 m_thrown m_above m_below m_tongue x3) (fun _ _ => none) N x1 x4
def fX11_digest_b37_body (N : Nat)  (m_thrown : Int32) (m_above : Int64) (m_below : Int64) (m_tongue : Nat → Int32) (r37 : Int64 → Int32 → Option (Int64 × Int32)) (x1 : Int64) (x3 : Int32) : Option (Int64 × Int32) := gm_chk 0 73 ((if (m_tongue (Int32.toNatClampNeg 0)) ≤ x3 then (fX11_digest_b105 N  m_thrown m_above m_below m_tongue x1) else (fX11_digest_b50 N r37 m_thrown m_above m_below m_tongue x3 x1 0)))
def fX11_digest_b37 (N : Nat)  (m_thrown : Int32) (m_above : Int64) (m_below : Int64) (m_tongue : Nat → Int32) (x1 : Int64) (x3 : Int32) : Option (Int64 × Int32) := gm_fix (fX11_digest_b37_body N  m_thrown m_above m_below m_tongue) (fun _ _ => none) N x1 x3
def fX11_digest_b35 (N : Nat)  (m_thrown : Int32) (m_above : Int64) (m_below : Int64) (m_tongue : Nat → Int32) (x1 : Int64) : Option (Int64 × Int32) := (fX11_digest_b37 N  m_thrown m_above m_below m_tongue x1 0)
def fX11_digest_b11_body (N : Nat)  (m_thrown : Int32) (m_size : Int32) (m_above : Int64) (m_below : Int64) (m_tongue : Nat → Int32) (r11 : Int64 → Int32 → Option (Int64 × Int32)) (x1 : Int64) (x3 : Int32) : Option (Int64 × Int32) := (if 7 ≤ x3 then (fX11_digest_b35 N  m_thrown m_above m_below m_tongue x1) else gm_bind (fX11_countOf N m_size m_tongue x3) (fun o24 => gm_bind (fX11_more N x1 ((Int32.toInt64 o24))) (fun o25 => (r11 o25 ((x3 + 1))))))
def fX11_digest_b11 (N : Nat)  (m_thrown : Int32) (m_size : Int32) (m_above : Int64) (m_below : Int64) (m_tongue : Nat → Int32) (x1 : Int64) (x3 : Int32) : Option (Int64 × Int32) := gm_fix (fX11_digest_b11_body N  m_thrown m_size m_above m_below m_tongue) (fun _ _ => none) N x1 x3
def fX11_digest (N : Nat) (m_thrown : Int32) (m_size : Int32) (m_above : Int64) (m_below : Int64) (m_tongue : Nat → Int32)  : Option (Int64 × Int32) := (fX11_digest_b11 N  0 m_size m_above m_below m_tongue 929 0)
set_option maxRecDepth 20000 in
theorem inX11_digest_X11 : ∀ w ∈ u_ws RX11 TX11 20, w ∈ wsX11_digest := fun w h => by
  obtain ⟨k, hk, rfl⟩ := List.mem_map.mp h
  have hk2 := List.mem_range.mp hk
  exact List.mem_of_getElem? (i := 24 + k) (by rcases (show k = 0 ∨ k = 1 ∨ k = 2 ∨ k = 3 ∨ k = 4 ∨ k = 5 ∨ k = 6 ∨ k = 7 ∨ k = 8 ∨ k = 9 ∨ k = 10 ∨ k = 11 ∨ k = 12 ∨ k = 13 ∨ k = 14 ∨ k = 15 ∨ k = 16 ∨ k = 17 ∨ k = 18 ∨ k = 19 by omega) with rfl | rfl | rfl | rfl | rfl | rfl | rfl | rfl | rfl | rfl | rfl | rfl | rfl | rfl | rfl | rfl | rfl | rfl | rfl | rfl <;> rfl)
set_option maxRecDepth 100000 in
set_option maxHeartbeats 4000000 in
theorem tX11_digest_b230 {p : Program} {l : Launch} {e : Env} {s : State} {m : MethodId} {args : Array Value} {below : List Frame} {meth : Method} {c : Code} {A : Nat → Prop} {dC : Nat → ClassId} {dI : Nat → Nat → Nat} {cI : ClassId} {q q_tongue q_refused q_fresh q_kept q_isKept q_text q_said q_talk : Nat} {m_thrown : Int32} {m_size : Int32} {m_at : Int32} {m_start : Int32} {m_token : Int32} {m_value : Int64} {m_faultAt : Int32} {m_allowed : Int32} {m_firstPair : Int32} {m_secondPair : Int32} {m_above : Int64} {m_below : Int64} {m_tongue : Nat → Int32} {x1 : Int64} (C0 : gm_C p s m args meth c (dC, dI) [(cI, .int)] A gm_T RX11 cX11_digest 5 (some .long) wsX11_digest) {N : Nat} {out : Int64 × Int32}    {H : Heap} {locs : List Loc} {ls : Array Slot} (h : fX11_digest_b230 N  m_thrown m_above m_below x1 = some out) (hH : gm_H (dC, dI) A s (wX11_digest cI q q_tongue q_refused q_fresh q_kept q_isKept q_text q_said q_talk m_thrown m_size m_at m_start m_token m_value m_faultAt m_allowed m_firstPair m_secondPair m_above m_below m_tongue) H locs) (hl : lv_has ls 5 [(0, .ref q), (1, .long x1)]) : W p l e rX11_digest s m args below meth c H locs 0 0 (MQ below (gm_Q (dC, dI) [(cI, .int)] A (some (.long out.1)) (wX11_digest cI q q_tongue q_refused q_fresh q_kept q_isKept q_text q_said q_talk out.2 m_size m_at m_start m_token m_value m_faultAt m_allowed m_firstPair m_secondPair m_above m_below m_tongue)) args s 0 0 A) (F0 m 230 ls []) := by
  obtain ⟨hx, hb, hml, hr, hown, hts, hA, hK, hX, hlocks⟩ := id C0
  unfold fX11_digest_b230 at h
  refine lv_aload_n hx hb dX11_digest_230 rfl (lv_at hl 0 rfl) ?_
  refine lv_aload_n hx hb dX11_digest_231 rfl (lv_at hl 0 rfl) ?_
  refine lv_lload_n hx hb dX11_digest_232 rfl (lv_at hl 1 rfl) ?_
  refine lv_aload_n hx hb dX11_digest_233 rfl (lv_at hl 0 rfl) ?_
  refine gm_get (ci := 11) C0 hH inX11_digest_X11 0 18 4 rfl rfl (by decide) rfl rfl dX11_digest_234 ?_
  obtain ⟨o9, ho9, h⟩ := gm_bind_e h
  refine gm_callV (As := [.long x1, .long m_above]) (rest := [.ref q]) (n := 2) (ci := 11) (q0 := 0) C0 hH (mX11_more l dC dI  q  x1 m_above   ho9) gX11_digest_X11_more rfl (by decide +kernel) ⟨rfl, rfl, Nat.le_of_ble_eq_true rfl, Nat.le_of_ble_eq_true rfl⟩ gm_T_ok (fun _ => trivial) [] rfl rfl rfl [] rfl rfl rfl rfl hl.1 rfl (Nat.le_of_ble_eq_true rfl) dX11_digest_237 ⟨Nat.zero_le _, Nat.zero_le _⟩ (fun H locs hH => ?_)
  have hH : gm_H (dC, dI) A s (wX11_digest cI q q_tongue q_refused q_fresh q_kept q_isKept q_text q_said q_talk m_thrown m_size m_at m_start m_token m_value m_faultAt m_allowed m_firstPair m_secondPair m_above m_below m_tongue) H locs := hH
  refine lv_aload_n hx hb dX11_digest_240 rfl (lv_at hl 0 rfl) ?_
  refine gm_get (ci := 11) C0 hH inX11_digest_X11 0 19 5 rfl rfl (by decide) rfl rfl dX11_digest_241 ?_
  obtain ⟨o10, ho10, h⟩ := gm_bind_e h
  refine gm_callV (As := [.long o9, .long m_below]) (rest := []) (n := 2) (ci := 11) (q0 := 0) C0 hH (mX11_more l dC dI  q  o9 m_below   ho10) gX11_digest_X11_more rfl (by decide +kernel) ⟨rfl, rfl, Nat.le_of_ble_eq_true rfl, Nat.le_of_ble_eq_true rfl⟩ gm_T_ok (fun _ => trivial) [] rfl rfl rfl [] rfl rfl rfl rfl hl.1 rfl (Nat.le_of_ble_eq_true rfl) dX11_digest_244 ⟨Nat.zero_le _, Nat.zero_le _⟩ (fun H locs hH => ?_)
  have hH : gm_H (dC, dI) A s (wX11_digest cI q q_tongue q_refused q_fresh q_kept q_isKept q_text q_said q_talk m_thrown m_size m_at m_start m_token m_value m_faultAt m_allowed m_firstPair m_secondPair m_above m_below m_tongue) H locs := hH
  obtain rfl := Option.some.inj h
  exact gm_lret C0 hH dX11_digest_247
set_option maxRecDepth 100000 in
set_option maxHeartbeats 4000000 in
theorem tX11_digest_b196 {p : Program} {l : Launch} {e : Env} {s : State} {m : MethodId} {args : Array Value} {below : List Frame} {meth : Method} {c : Code} {A : Nat → Prop} {dC : Nat → ClassId} {dI : Nat → Nat → Nat} {cI : ClassId} {q q_tongue q_refused q_fresh q_kept q_isKept q_text q_said q_talk : Nat} {m_thrown : Int32} {m_size : Int32} {m_at : Int32} {m_start : Int32} {m_token : Int32} {m_value : Int64} {m_faultAt : Int32} {m_allowed : Int32} {m_firstPair : Int32} {m_secondPair : Int32} {m_above : Int64} {m_below : Int64} {m_tongue : Nat → Int32} (C0 : gm_C p s m args meth c (dC, dI) [(cI, .int)] A gm_T RX11 cX11_digest 5 (some .long) wsX11_digest) {N : Nat} {out : Int64 × Int32}   : ∀ (n : Nat), ∀ (x1 : Int64) (x3 : Int32) (H : Heap) (locs : List Loc) (ls : Array Slot), (gm_fix (fX11_digest_b196_body N  m_thrown m_above m_below m_tongue) (fun _ _ => none) n) x1 x3 = some out → gm_H (dC, dI) A s (wX11_digest cI q q_tongue q_refused q_fresh q_kept q_isKept q_text q_said q_talk m_thrown m_size m_at m_start m_token m_value m_faultAt m_allowed m_firstPair m_secondPair m_above m_below m_tongue) H locs → lv_has ls 5 [(0, .ref q), (1, .long x1), (3, .int x3)] → W p l e rX11_digest s m args below meth c H locs 0 0 (MQ below (gm_Q (dC, dI) [(cI, .int)] A (some (.long out.1)) (wX11_digest cI q q_tongue q_refused q_fresh q_kept q_isKept q_text q_said q_talk out.2 m_size m_at m_start m_token m_value m_faultAt m_allowed m_firstPair m_secondPair m_above m_below m_tongue)) args s 0 0 A) (F0 m 196 ls []) := by
  obtain ⟨hx, hb, hml, hr, hown, hts, hA, hK, hX, hlocks⟩ := id C0
  intro n
  induction n with
  | zero =>
    intro x1 x3 H locs ls h hH hl
    cases h
  | succ n hr196 =>
    intro x1 x3 H locs ls h hH hl
    rw [gm_fix_s] at h
    unfold fX11_digest_b196_body at h
    refine lv_iload_n hx hb dX11_digest_196 rfl (lv_at hl 2 rfl) ?_
    refine lv_iconst (v := 2) hx hb dX11_digest_197 (by decide) ?_
    refine lv_aload_n hx hb dX11_digest_198 rfl (lv_at hl 0 rfl) ?_
    refine gm_get (ci := 11) C0 hH inX11_digest_X11 0 2 3 rfl rfl (by decide) rfl rfl dX11_digest_199 ?_
    refine lv_iconst (v := 3) hx hb dX11_digest_202 (by decide) ?_
    obtain ⟨hi7, h⟩ := gm_chk_e h
    refine gm_iald C0 hH hi7 1 0 rfl rfl dX11_digest_203 ?_
    refine lv_imul hx hb dX11_digest_204 ?_
    refine lv_icmp_ge (tgt := 230) hx hb dX11_digest_205 (by decide) (fun hc8 => ?_) (fun hc8 => ?_)
    · replace h := gm_pos hc8 h
      exact tX11_digest_b230 C0  h hH (lv_sub hl [0, 1] rfl)
    · replace h := gm_neg hc8 h
      refine lv_aload_n hx hb dX11_digest_208 rfl (lv_at hl 0 rfl) ?_
      refine lv_lload_n hx hb dX11_digest_209 rfl (lv_at hl 1 rfl) ?_
      refine lv_aload_n hx hb dX11_digest_210 rfl (lv_at hl 0 rfl) ?_
      refine gm_get (ci := 11) C0 hH inX11_digest_X11 0 2 3 rfl rfl (by decide) rfl rfl dX11_digest_211 ?_
      refine lv_bipush (v := 53) hx hb dX11_digest_214 (by decide) ?_
      refine lv_iload_n hx hb dX11_digest_216 rfl (lv_at hl 2 rfl) ?_
      refine lv_iadd hx hb dX11_digest_217 ?_
      obtain ⟨hi11, h⟩ := gm_chk_e h
      refine gm_iald C0 hH hi11 1 0 rfl rfl dX11_digest_218 ?_
      refine lv_i2l hx hb dX11_digest_219 rfl ?_
      obtain ⟨o12, ho12, h⟩ := gm_bind_e h
      refine gm_callV (As := [.long x1, .long (Int32.toInt64 (m_tongue (Int32.toNatClampNeg ((53 + x3)))))]) (rest := []) (n := 2) (ci := 11) (q0 := 0) C0 hH (mX11_more l dC dI  q  x1 ((Int32.toInt64 (m_tongue (Int32.toNatClampNeg ((53 + x3))))))   ho12) gX11_digest_X11_more rfl (by decide +kernel) ⟨rfl, rfl, Nat.le_of_ble_eq_true rfl, Nat.le_of_ble_eq_true rfl⟩ gm_T_ok (fun _ => trivial) [] rfl rfl rfl [] rfl rfl rfl rfl hl.1 rfl (Nat.le_of_ble_eq_true rfl) dX11_digest_220 ⟨Nat.zero_le _, Nat.zero_le _⟩ (fun H locs hH => ?_)
      have hH : gm_H (dC, dI) A s (wX11_digest cI q q_tongue q_refused q_fresh q_kept q_isKept q_text q_said q_talk m_thrown m_size m_at m_start m_token m_value m_faultAt m_allowed m_firstPair m_secondPair m_above m_below m_tongue) H locs := hH
      refine lv_lstore_n (lv' := [(1, .long o12), (0, .ref q), (3, .int x3)]) hx hb dX11_digest_223 rfl hl (by decide) rfl (fun ls hl => ?_)
      refine lv_iinc (v := (x3 + 1)) (lv' := [(3, .int (x3 + 1)), (1, .long o12), (0, .ref q)]) hx hb dX11_digest_224 hl (k := 2) rfl rfl (by decide) rfl (fun ls hl => ?_)
      refine lv_goto (tgt := 196) hx hb dX11_digest_227 (by decide) ?_
      exact hr196 _ _ _ _ _ h hH (lv_sub hl [2, 1, 0] rfl)
set_option maxRecDepth 100000 in
set_option maxHeartbeats 4000000 in
theorem tX11_digest_b194 {p : Program} {l : Launch} {e : Env} {s : State} {m : MethodId} {args : Array Value} {below : List Frame} {meth : Method} {c : Code} {A : Nat → Prop} {dC : Nat → ClassId} {dI : Nat → Nat → Nat} {cI : ClassId} {q q_tongue q_refused q_fresh q_kept q_isKept q_text q_said q_talk : Nat} {m_thrown : Int32} {m_size : Int32} {m_at : Int32} {m_start : Int32} {m_token : Int32} {m_value : Int64} {m_faultAt : Int32} {m_allowed : Int32} {m_firstPair : Int32} {m_secondPair : Int32} {m_above : Int64} {m_below : Int64} {m_tongue : Nat → Int32} {x1 : Int64} (C0 : gm_C p s m args meth c (dC, dI) [(cI, .int)] A gm_T RX11 cX11_digest 5 (some .long) wsX11_digest) {N : Nat} {out : Int64 × Int32}    {H : Heap} {locs : List Loc} {ls : Array Slot} (h : fX11_digest_b194 N  m_thrown m_above m_below m_tongue x1 = some out) (hH : gm_H (dC, dI) A s (wX11_digest cI q q_tongue q_refused q_fresh q_kept q_isKept q_text q_said q_talk m_thrown m_size m_at m_start m_token m_value m_faultAt m_allowed m_firstPair m_secondPair m_above m_below m_tongue) H locs) (hl : lv_has ls 5 [(0, .ref q), (1, .long x1)]) : W p l e rX11_digest s m args below meth c H locs 0 0 (MQ below (gm_Q (dC, dI) [(cI, .int)] A (some (.long out.1)) (wX11_digest cI q q_tongue q_refused q_fresh q_kept q_isKept q_text q_said q_talk out.2 m_size m_at m_start m_token m_value m_faultAt m_allowed m_firstPair m_secondPair m_above m_below m_tongue)) args s 0 0 A) (F0 m 194 ls []) := by
  obtain ⟨hx, hb, hml, hr, hown, hts, hA, hK, hX, hlocks⟩ := id C0
  unfold fX11_digest_b194 at h
  refine lv_iconst (v := 0) hx hb dX11_digest_194 (by decide) ?_
  refine lv_istore_n (lv' := [(3, .int 0), (0, .ref q), (1, .long x1)]) hx hb dX11_digest_195 rfl hl (by decide) rfl (fun ls hl => ?_)
  unfold fX11_digest_b196 at h
  exact tX11_digest_b196 C0  _ _ _ _ _ _ h hH (lv_sub hl [1, 2, 0] rfl)
set_option maxRecDepth 100000 in
set_option maxHeartbeats 4000000 in
theorem tX11_digest_b160 {p : Program} {l : Launch} {e : Env} {s : State} {m : MethodId} {args : Array Value} {below : List Frame} {meth : Method} {c : Code} {A : Nat → Prop} {dC : Nat → ClassId} {dI : Nat → Nat → Nat} {cI : ClassId} {q q_tongue q_refused q_fresh q_kept q_isKept q_text q_said q_talk : Nat} {m_thrown : Int32} {m_size : Int32} {m_at : Int32} {m_start : Int32} {m_token : Int32} {m_value : Int64} {m_faultAt : Int32} {m_allowed : Int32} {m_firstPair : Int32} {m_secondPair : Int32} {m_above : Int64} {m_below : Int64} {m_tongue : Nat → Int32} (C0 : gm_C p s m args meth c (dC, dI) [(cI, .int)] A gm_T RX11 cX11_digest 5 (some .long) wsX11_digest) {N : Nat} {out : Int64 × Int32}   : ∀ (n : Nat), ∀ (x1 : Int64) (x3 : Int32) (H : Heap) (locs : List Loc) (ls : Array Slot), (gm_fix (fX11_digest_b160_body N  m_thrown m_above m_below m_tongue) (fun _ _ => none) n) x1 x3 = some out → gm_H (dC, dI) A s (wX11_digest cI q q_tongue q_refused q_fresh q_kept q_isKept q_text q_said q_talk m_thrown m_size m_at m_start m_token m_value m_faultAt m_allowed m_firstPair m_secondPair m_above m_below m_tongue) H locs → lv_has ls 5 [(0, .ref q), (1, .long x1), (3, .int x3)] → W p l e rX11_digest s m args below meth c H locs 0 0 (MQ below (gm_Q (dC, dI) [(cI, .int)] A (some (.long out.1)) (wX11_digest cI q q_tongue q_refused q_fresh q_kept q_isKept q_text q_said q_talk out.2 m_size m_at m_start m_token m_value m_faultAt m_allowed m_firstPair m_secondPair m_above m_below m_tongue)) args s 0 0 A) (F0 m 160 ls []) := by
  obtain ⟨hx, hb, hml, hr, hown, hts, hA, hK, hX, hlocks⟩ := id C0
  intro n
  induction n with
  | zero =>
    intro x1 x3 H locs ls h hH hl
    cases h
  | succ n hr160 =>
    intro x1 x3 H locs ls h hH hl
    rw [gm_fix_s] at h
    unfold fX11_digest_b160_body at h
    refine lv_iload_n hx hb dX11_digest_160 rfl (lv_at hl 2 rfl) ?_
    refine lv_iconst (v := 2) hx hb dX11_digest_161 (by decide) ?_
    refine lv_aload_n hx hb dX11_digest_162 rfl (lv_at hl 0 rfl) ?_
    refine gm_get (ci := 11) C0 hH inX11_digest_X11 0 2 3 rfl rfl (by decide) rfl rfl dX11_digest_163 ?_
    refine lv_iconst (v := 1) hx hb dX11_digest_166 (by decide) ?_
    obtain ⟨hi5, h⟩ := gm_chk_e h
    refine gm_iald C0 hH hi5 1 0 rfl rfl dX11_digest_167 ?_
    refine lv_imul hx hb dX11_digest_168 ?_
    refine lv_icmp_ge (tgt := 194) hx hb dX11_digest_169 (by decide) (fun hc6 => ?_) (fun hc6 => ?_)
    · replace h := gm_pos hc6 h
      exact tX11_digest_b194 C0  h hH (lv_sub hl [0, 1] rfl)
    · replace h := gm_neg hc6 h
      refine lv_aload_n hx hb dX11_digest_172 rfl (lv_at hl 0 rfl) ?_
      refine lv_lload_n hx hb dX11_digest_173 rfl (lv_at hl 1 rfl) ?_
      refine lv_aload_n hx hb dX11_digest_174 rfl (lv_at hl 0 rfl) ?_
      refine gm_get (ci := 11) C0 hH inX11_digest_X11 0 2 3 rfl rfl (by decide) rfl rfl dX11_digest_175 ?_
      refine lv_bipush (v := 35) hx hb dX11_digest_178 (by decide) ?_
      refine lv_iload_n hx hb dX11_digest_180 rfl (lv_at hl 2 rfl) ?_
      refine lv_iadd hx hb dX11_digest_181 ?_
      obtain ⟨hi13, h⟩ := gm_chk_e h
      refine gm_iald C0 hH hi13 1 0 rfl rfl dX11_digest_182 ?_
      refine lv_i2l hx hb dX11_digest_183 rfl ?_
      obtain ⟨o14, ho14, h⟩ := gm_bind_e h
      refine gm_callV (As := [.long x1, .long (Int32.toInt64 (m_tongue (Int32.toNatClampNeg ((35 + x3)))))]) (rest := []) (n := 2) (ci := 11) (q0 := 0) C0 hH (mX11_more l dC dI  q  x1 ((Int32.toInt64 (m_tongue (Int32.toNatClampNeg ((35 + x3))))))   ho14) gX11_digest_X11_more rfl (by decide +kernel) ⟨rfl, rfl, Nat.le_of_ble_eq_true rfl, Nat.le_of_ble_eq_true rfl⟩ gm_T_ok (fun _ => trivial) [] rfl rfl rfl [] rfl rfl rfl rfl hl.1 rfl (Nat.le_of_ble_eq_true rfl) dX11_digest_184 ⟨Nat.zero_le _, Nat.zero_le _⟩ (fun H locs hH => ?_)
      have hH : gm_H (dC, dI) A s (wX11_digest cI q q_tongue q_refused q_fresh q_kept q_isKept q_text q_said q_talk m_thrown m_size m_at m_start m_token m_value m_faultAt m_allowed m_firstPair m_secondPair m_above m_below m_tongue) H locs := hH
      refine lv_lstore_n (lv' := [(1, .long o14), (0, .ref q), (3, .int x3)]) hx hb dX11_digest_187 rfl hl (by decide) rfl (fun ls hl => ?_)
      refine lv_iinc (v := (x3 + 1)) (lv' := [(3, .int (x3 + 1)), (1, .long o14), (0, .ref q)]) hx hb dX11_digest_188 hl (k := 2) rfl rfl (by decide) rfl (fun ls hl => ?_)
      refine lv_goto (tgt := 160) hx hb dX11_digest_191 (by decide) ?_
      exact hr160 _ _ _ _ _ h hH (lv_sub hl [2, 1, 0] rfl)
set_option maxRecDepth 100000 in
set_option maxHeartbeats 4000000 in
theorem tX11_digest_b158 {p : Program} {l : Launch} {e : Env} {s : State} {m : MethodId} {args : Array Value} {below : List Frame} {meth : Method} {c : Code} {A : Nat → Prop} {dC : Nat → ClassId} {dI : Nat → Nat → Nat} {cI : ClassId} {q q_tongue q_refused q_fresh q_kept q_isKept q_text q_said q_talk : Nat} {m_thrown : Int32} {m_size : Int32} {m_at : Int32} {m_start : Int32} {m_token : Int32} {m_value : Int64} {m_faultAt : Int32} {m_allowed : Int32} {m_firstPair : Int32} {m_secondPair : Int32} {m_above : Int64} {m_below : Int64} {m_tongue : Nat → Int32} {x1 : Int64} (C0 : gm_C p s m args meth c (dC, dI) [(cI, .int)] A gm_T RX11 cX11_digest 5 (some .long) wsX11_digest) {N : Nat} {out : Int64 × Int32}    {H : Heap} {locs : List Loc} {ls : Array Slot} (h : fX11_digest_b158 N  m_thrown m_above m_below m_tongue x1 = some out) (hH : gm_H (dC, dI) A s (wX11_digest cI q q_tongue q_refused q_fresh q_kept q_isKept q_text q_said q_talk m_thrown m_size m_at m_start m_token m_value m_faultAt m_allowed m_firstPair m_secondPair m_above m_below m_tongue) H locs) (hl : lv_has ls 5 [(0, .ref q), (1, .long x1)]) : W p l e rX11_digest s m args below meth c H locs 0 0 (MQ below (gm_Q (dC, dI) [(cI, .int)] A (some (.long out.1)) (wX11_digest cI q q_tongue q_refused q_fresh q_kept q_isKept q_text q_said q_talk out.2 m_size m_at m_start m_token m_value m_faultAt m_allowed m_firstPair m_secondPair m_above m_below m_tongue)) args s 0 0 A) (F0 m 158 ls []) := by
  obtain ⟨hx, hb, hml, hr, hown, hts, hA, hK, hX, hlocks⟩ := id C0
  unfold fX11_digest_b158 at h
  refine lv_iconst (v := 0) hx hb dX11_digest_158 (by decide) ?_
  refine lv_istore_n (lv' := [(3, .int 0), (0, .ref q), (1, .long x1)]) hx hb dX11_digest_159 rfl hl (by decide) rfl (fun ls hl => ?_)
  unfold fX11_digest_b160 at h
  exact tX11_digest_b160 C0  _ _ _ _ _ _ h hH (lv_sub hl [1, 2, 0] rfl)
set_option maxRecDepth 100000 in
set_option maxHeartbeats 4000000 in
theorem tX11_digest_b152 {p : Program} {l : Launch} {e : Env} {s : State} {m : MethodId} {args : Array Value} {below : List Frame} {meth : Method} {c : Code} {A : Nat → Prop} {dC : Nat → ClassId} {dI : Nat → Nat → Nat} {cI : ClassId} {q q_tongue q_refused q_fresh q_kept q_isKept q_text q_said q_talk : Nat} {m_thrown : Int32} {m_size : Int32} {m_at : Int32} {m_start : Int32} {m_token : Int32} {m_value : Int64} {m_faultAt : Int32} {m_allowed : Int32} {m_firstPair : Int32} {m_secondPair : Int32} {m_above : Int64} {m_below : Int64} {m_tongue : Nat → Int32} {x1 : Int64} {x3 : Int32} (C0 : gm_C p s m args meth c (dC, dI) [(cI, .int)] A gm_T RX11 cX11_digest 5 (some .long) wsX11_digest) {N : Nat} {out : Int64 × Int32} {r107 : Int64 → Int32 → Option (Int64 × Int32)} (hr107 : ∀ (x1 : Int64) (x3 : Int32) (H : Heap) (locs : List Loc) (ls : Array Slot), r107 x1 x3 = some out → gm_H (dC, dI) A s (wX11_digest cI q q_tongue q_refused q_fresh q_kept q_isKept q_text q_said q_talk m_thrown m_size m_at m_start m_token m_value m_faultAt m_allowed m_firstPair m_secondPair m_above m_below m_tongue) H locs → lv_has ls 5 [(0, .ref q), (1, .long x1), (3, .int x3)] → W p l e rX11_digest s m args below meth c H locs 0 0 (MQ below (gm_Q (dC, dI) [(cI, .int)] A (some (.long out.1)) (wX11_digest cI q q_tongue q_refused q_fresh q_kept q_isKept q_text q_said q_talk out.2 m_size m_at m_start m_token m_value m_faultAt m_allowed m_firstPair m_secondPair m_above m_below m_tongue)) args s 0 0 A) (F0 m 107 ls []))   {H : Heap} {locs : List Loc} {ls : Array Slot} (h : fX11_digest_b152 N r107 m_thrown m_above m_below m_tongue x1 x3 = some out) (hH : gm_H (dC, dI) A s (wX11_digest cI q q_tongue q_refused q_fresh q_kept q_isKept q_text q_said q_talk m_thrown m_size m_at m_start m_token m_value m_faultAt m_allowed m_firstPair m_secondPair m_above m_below m_tongue) H locs) (hl : lv_has ls 5 [(0, .ref q), (1, .long x1), (3, .int x3)]) : W p l e rX11_digest s m args below meth c H locs 0 0 (MQ below (gm_Q (dC, dI) [(cI, .int)] A (some (.long out.1)) (wX11_digest cI q q_tongue q_refused q_fresh q_kept q_isKept q_text q_said q_talk out.2 m_size m_at m_start m_token m_value m_faultAt m_allowed m_firstPair m_secondPair m_above m_below m_tongue)) args s 0 0 A) (F0 m 152 ls []) := by
  obtain ⟨hx, hb, hml, hr, hown, hts, hA, hK, hX, hlocks⟩ := id C0
  unfold fX11_digest_b152 at h
  refine lv_iinc (v := (x3 + 1)) (lv' := [(3, .int (x3 + 1)), (0, .ref q), (1, .long x1)]) hx hb dX11_digest_152 hl (k := 2) rfl rfl (by decide) rfl (fun ls hl => ?_)
  refine lv_goto (tgt := 107) hx hb dX11_digest_155 (by decide) ?_
  exact hr107 _ _ _ _ _ h hH (lv_sub hl [1, 2, 0] rfl)
set_option maxRecDepth 100000 in
set_option maxHeartbeats 4000000 in
theorem tX11_digest_b118 {p : Program} {l : Launch} {e : Env} {s : State} {m : MethodId} {args : Array Value} {below : List Frame} {meth : Method} {c : Code} {A : Nat → Prop} {dC : Nat → ClassId} {dI : Nat → Nat → Nat} {cI : ClassId} {q q_tongue q_refused q_fresh q_kept q_isKept q_text q_said q_talk : Nat} {m_thrown : Int32} {m_size : Int32} {m_at : Int32} {m_start : Int32} {m_token : Int32} {m_value : Int64} {m_faultAt : Int32} {m_allowed : Int32} {m_firstPair : Int32} {m_secondPair : Int32} {m_above : Int64} {m_below : Int64} {m_tongue : Nat → Int32} {x3 : Int32} (C0 : gm_C p s m args meth c (dC, dI) [(cI, .int)] A gm_T RX11 cX11_digest 5 (some .long) wsX11_digest) {N : Nat} {out : Int64 × Int32} {r107 : Int64 → Int32 → Option (Int64 × Int32)} (hr107 : ∀ (x1 : Int64) (x3 : Int32) (H : Heap) (locs : List Loc) (ls : Array Slot), r107 x1 x3 = some out → gm_H (dC, dI) A s (wX11_digest cI q q_tongue q_refused q_fresh q_kept q_isKept q_text q_said q_talk m_thrown m_size m_at m_start m_token m_value m_faultAt m_allowed m_firstPair m_secondPair m_above m_below m_tongue) H locs → lv_has ls 5 [(0, .ref q), (1, .long x1), (3, .int x3)] → W p l e rX11_digest s m args below meth c H locs 0 0 (MQ below (gm_Q (dC, dI) [(cI, .int)] A (some (.long out.1)) (wX11_digest cI q q_tongue q_refused q_fresh q_kept q_isKept q_text q_said q_talk out.2 m_size m_at m_start m_token m_value m_faultAt m_allowed m_firstPair m_secondPair m_above m_below m_tongue)) args s 0 0 A) (F0 m 107 ls []))  : ∀ (n : Nat), ∀ (x1 : Int64) (x4 : Int32) (H : Heap) (locs : List Loc) (ls : Array Slot), (gm_fix (fX11_digest_b118_body N r107 m_thrown m_above m_below m_tongue x3) (fun _ _ => none) n) x1 x4 = some out → gm_H (dC, dI) A s (wX11_digest cI q q_tongue q_refused q_fresh q_kept q_isKept q_text q_said q_talk m_thrown m_size m_at m_start m_token m_value m_faultAt m_allowed m_firstPair m_secondPair m_above m_below m_tongue) H locs → lv_has ls 5 [(0, .ref q), (1, .long x1), (3, .int x3), (4, .int x4)] → W p l e rX11_digest s m args below meth c H locs 0 0 (MQ below (gm_Q (dC, dI) [(cI, .int)] A (some (.long out.1)) (wX11_digest cI q q_tongue q_refused q_fresh q_kept q_isKept q_text q_said q_talk out.2 m_size m_at m_start m_token m_value m_faultAt m_allowed m_firstPair m_secondPair m_above m_below m_tongue)) args s 0 0 A) (F0 m 118 ls []) := by
  obtain ⟨hx, hb, hml, hr, hown, hts, hA, hK, hX, hlocks⟩ := id C0
  intro n
  induction n with
  | zero =>
    intro x1 x4 H locs ls h hH hl
    cases h
  | succ n hr118 =>
    intro x1 x4 H locs ls h hH hl
    rw [gm_fix_s] at h
    unfold fX11_digest_b118_body at h
    refine lv_iload hx hb dX11_digest_118 (lv_at hl 3 rfl) ?_
    refine lv_bipush (v := 8) hx hb dX11_digest_120 (by decide) ?_
    refine lv_icmp_ge (tgt := 152) hx hb dX11_digest_122 (by decide) (fun hc16 => ?_) (fun hc16 => ?_)
    · replace h := gm_pos hc16 h
      exact tX11_digest_b152 C0 hr107 h hH (lv_sub hl [0, 1, 2] rfl)
    · replace h := gm_neg hc16 h
      refine lv_aload_n hx hb dX11_digest_125 rfl (lv_at hl 0 rfl) ?_
      refine lv_lload_n hx hb dX11_digest_126 rfl (lv_at hl 1 rfl) ?_
      refine lv_aload_n hx hb dX11_digest_127 rfl (lv_at hl 0 rfl) ?_
      refine gm_get (ci := 11) C0 hH inX11_digest_X11 0 2 3 rfl rfl (by decide) rfl rfl dX11_digest_128 ?_
      refine lv_bipush (v := 45) hx hb dX11_digest_131 (by decide) ?_
      refine lv_iload_n hx hb dX11_digest_133 rfl (lv_at hl 2 rfl) ?_
      refine lv_iadd hx hb dX11_digest_134 ?_
      obtain ⟨hi17, h⟩ := gm_chk_e h
      refine gm_iald C0 hH hi17 1 0 rfl rfl dX11_digest_135 ?_
      refine lv_iload hx hb dX11_digest_136 (lv_at hl 3 rfl) ?_
      refine lv_ishr hx hb dX11_digest_138 ?_
      refine lv_iconst (v := 1) hx hb dX11_digest_139 (by decide) ?_
      refine lv_iand hx hb dX11_digest_140 ?_
      refine lv_i2l hx hb dX11_digest_141 rfl ?_
      obtain ⟨o18, ho18, h⟩ := gm_bind_e h
      refine gm_callV (As := [.long x1, .long (Int32.toInt64 (((m_tongue (Int32.toNatClampNeg ((45 + x3)))) >>> (x4 &&& 31)) &&& 1))]) (rest := []) (n := 2) (ci := 11) (q0 := 0) C0 hH (mX11_more l dC dI  q  x1 ((Int32.toInt64 (((m_tongue (Int32.toNatClampNeg ((45 + x3)))) >>> (x4 &&& 31)) &&& 1)))   ho18) gX11_digest_X11_more rfl (by decide +kernel) ⟨rfl, rfl, Nat.le_of_ble_eq_true rfl, Nat.le_of_ble_eq_true rfl⟩ gm_T_ok (fun _ => trivial) [] rfl rfl rfl [] rfl rfl rfl rfl hl.1 rfl (Nat.le_of_ble_eq_true rfl) dX11_digest_142 ⟨Nat.zero_le _, Nat.zero_le _⟩ (fun H locs hH => ?_)
      have hH : gm_H (dC, dI) A s (wX11_digest cI q q_tongue q_refused q_fresh q_kept q_isKept q_text q_said q_talk m_thrown m_size m_at m_start m_token m_value m_faultAt m_allowed m_firstPair m_secondPair m_above m_below m_tongue) H locs := hH
      refine lv_lstore_n (lv' := [(1, .long o18), (0, .ref q), (3, .int x3), (4, .int x4)]) hx hb dX11_digest_145 rfl hl (by decide) rfl (fun ls hl => ?_)
      refine lv_iinc (v := (x4 + 1)) (lv' := [(4, .int (x4 + 1)), (1, .long o18), (0, .ref q), (3, .int x3)]) hx hb dX11_digest_146 hl (k := 3) rfl rfl (by decide) rfl (fun ls hl => ?_)
      refine lv_goto (tgt := 118) hx hb dX11_digest_149 (by decide) ?_
      exact hr118 _ _ _ _ _ h hH (lv_sub hl [2, 1, 3, 0] rfl)
set_option maxRecDepth 100000 in
set_option maxHeartbeats 4000000 in
theorem tX11_digest_b107 {p : Program} {l : Launch} {e : Env} {s : State} {m : MethodId} {args : Array Value} {below : List Frame} {meth : Method} {c : Code} {A : Nat → Prop} {dC : Nat → ClassId} {dI : Nat → Nat → Nat} {cI : ClassId} {q q_tongue q_refused q_fresh q_kept q_isKept q_text q_said q_talk : Nat} {m_thrown : Int32} {m_size : Int32} {m_at : Int32} {m_start : Int32} {m_token : Int32} {m_value : Int64} {m_faultAt : Int32} {m_allowed : Int32} {m_firstPair : Int32} {m_secondPair : Int32} {m_above : Int64} {m_below : Int64} {m_tongue : Nat → Int32} (C0 : gm_C p s m args meth c (dC, dI) [(cI, .int)] A gm_T RX11 cX11_digest 5 (some .long) wsX11_digest) {N : Nat} {out : Int64 × Int32}   : ∀ (n : Nat), ∀ (x1 : Int64) (x3 : Int32) (H : Heap) (locs : List Loc) (ls : Array Slot), (gm_fix (fX11_digest_b107_body N  m_thrown m_above m_below m_tongue) (fun _ _ => none) n) x1 x3 = some out → gm_H (dC, dI) A s (wX11_digest cI q q_tongue q_refused q_fresh q_kept q_isKept q_text q_said q_talk m_thrown m_size m_at m_start m_token m_value m_faultAt m_allowed m_firstPair m_secondPair m_above m_below m_tongue) H locs → lv_has ls 5 [(0, .ref q), (1, .long x1), (3, .int x3)] → W p l e rX11_digest s m args below meth c H locs 0 0 (MQ below (gm_Q (dC, dI) [(cI, .int)] A (some (.long out.1)) (wX11_digest cI q q_tongue q_refused q_fresh q_kept q_isKept q_text q_said q_talk out.2 m_size m_at m_start m_token m_value m_faultAt m_allowed m_firstPair m_secondPair m_above m_below m_tongue)) args s 0 0 A) (F0 m 107 ls []) := by
  obtain ⟨hx, hb, hml, hr, hown, hts, hA, hK, hX, hlocks⟩ := id C0
  intro n
  induction n with
  | zero =>
    intro x1 x3 H locs ls h hH hl
    cases h
  | succ n hr107 =>
    intro x1 x3 H locs ls h hH hl
    rw [gm_fix_s] at h
    unfold fX11_digest_b107_body at h
    refine lv_iload_n hx hb dX11_digest_107 rfl (lv_at hl 2 rfl) ?_
    refine lv_bipush (v := 8) hx hb dX11_digest_108 (by decide) ?_
    refine lv_icmp_ge (tgt := 158) hx hb dX11_digest_110 (by decide) (fun hc4 => ?_) (fun hc4 => ?_)
    · replace h := gm_pos hc4 h
      exact tX11_digest_b158 C0  h hH (lv_sub hl [0, 1] rfl)
    · replace h := gm_neg hc4 h
      refine lv_iload_n hx hb dX11_digest_113 rfl (lv_at hl 2 rfl) ?_
      refine lv_iconst (v := 1) hx hb dX11_digest_114 (by decide) ?_
      refine lv_iadd hx hb dX11_digest_115 ?_
      refine lv_topi (fun v15 ev15 => ?_)
      replace h := gm_let_e ev15 h
      refine lv_istore (lv' := [(4, .int v15), (0, .ref q), (1, .long x1), (3, .int x3)]) hx hb dX11_digest_116 hl (by decide) rfl (fun ls hl => ?_)
      unfold fX11_digest_b118 at h
      exact tX11_digest_b118 C0 hr107 _ _ _ _ _ _ h hH (lv_sub hl [1, 2, 3, 0] rfl)
set_option maxRecDepth 100000 in
set_option maxHeartbeats 4000000 in
theorem tX11_digest_b105 {p : Program} {l : Launch} {e : Env} {s : State} {m : MethodId} {args : Array Value} {below : List Frame} {meth : Method} {c : Code} {A : Nat → Prop} {dC : Nat → ClassId} {dI : Nat → Nat → Nat} {cI : ClassId} {q q_tongue q_refused q_fresh q_kept q_isKept q_text q_said q_talk : Nat} {m_thrown : Int32} {m_size : Int32} {m_at : Int32} {m_start : Int32} {m_token : Int32} {m_value : Int64} {m_faultAt : Int32} {m_allowed : Int32} {m_firstPair : Int32} {m_secondPair : Int32} {m_above : Int64} {m_below : Int64} {m_tongue : Nat → Int32} {x1 : Int64} (C0 : gm_C p s m args meth c (dC, dI) [(cI, .int)] A gm_T RX11 cX11_digest 5 (some .long) wsX11_digest) {N : Nat} {out : Int64 × Int32}    {H : Heap} {locs : List Loc} {ls : Array Slot} (h : fX11_digest_b105 N  m_thrown m_above m_below m_tongue x1 = some out) (hH : gm_H (dC, dI) A s (wX11_digest cI q q_tongue q_refused q_fresh q_kept q_isKept q_text q_said q_talk m_thrown m_size m_at m_start m_token m_value m_faultAt m_allowed m_firstPair m_secondPair m_above m_below m_tongue) H locs) (hl : lv_has ls 5 [(0, .ref q), (1, .long x1)]) : W p l e rX11_digest s m args below meth c H locs 0 0 (MQ below (gm_Q (dC, dI) [(cI, .int)] A (some (.long out.1)) (wX11_digest cI q q_tongue q_refused q_fresh q_kept q_isKept q_text q_said q_talk out.2 m_size m_at m_start m_token m_value m_faultAt m_allowed m_firstPair m_secondPair m_above m_below m_tongue)) args s 0 0 A) (F0 m 105 ls []) := by
  obtain ⟨hx, hb, hml, hr, hown, hts, hA, hK, hX, hlocks⟩ := id C0
  unfold fX11_digest_b105 at h
  refine lv_iconst (v := 0) hx hb dX11_digest_105 (by decide) ?_
  refine lv_istore_n (lv' := [(3, .int 0), (0, .ref q), (1, .long x1)]) hx hb dX11_digest_106 rfl hl (by decide) rfl (fun ls hl => ?_)
  unfold fX11_digest_b107 at h
  exact tX11_digest_b107 C0  _ _ _ _ _ _ h hH (lv_sub hl [1, 2, 0] rfl)
set_option maxRecDepth 100000 in
set_option maxHeartbeats 4000000 in
theorem tX11_digest_b82 {p : Program} {l : Launch} {e : Env} {s : State} {m : MethodId} {args : Array Value} {below : List Frame} {meth : Method} {c : Code} {A : Nat → Prop} {dC : Nat → ClassId} {dI : Nat → Nat → Nat} {cI : ClassId} {q q_tongue q_refused q_fresh q_kept q_isKept q_text q_said q_talk : Nat} {m_thrown : Int32} {m_size : Int32} {m_at : Int32} {m_start : Int32} {m_token : Int32} {m_value : Int64} {m_faultAt : Int32} {m_allowed : Int32} {m_firstPair : Int32} {m_secondPair : Int32} {m_above : Int64} {m_below : Int64} {m_tongue : Nat → Int32} {x1 : Int64} {x3 : Int32} (C0 : gm_C p s m args meth c (dC, dI) [(cI, .int)] A gm_T RX11 cX11_digest 5 (some .long) wsX11_digest) {N : Nat} {out : Int64 × Int32} {r37 : Int64 → Int32 → Option (Int64 × Int32)} (hr37 : ∀ (x1 : Int64) (x3 : Int32) (H : Heap) (locs : List Loc) (ls : Array Slot), r37 x1 x3 = some out → gm_H (dC, dI) A s (wX11_digest cI q q_tongue q_refused q_fresh q_kept q_isKept q_text q_said q_talk m_thrown m_size m_at m_start m_token m_value m_faultAt m_allowed m_firstPair m_secondPair m_above m_below m_tongue) H locs → lv_has ls 5 [(0, .ref q), (1, .long x1), (3, .int x3)] → W p l e rX11_digest s m args below meth c H locs 0 0 (MQ below (gm_Q (dC, dI) [(cI, .int)] A (some (.long out.1)) (wX11_digest cI q q_tongue q_refused q_fresh q_kept q_isKept q_text q_said q_talk out.2 m_size m_at m_start m_token m_value m_faultAt m_allowed m_firstPair m_secondPair m_above m_below m_tongue)) args s 0 0 A) (F0 m 37 ls []))   {H : Heap} {locs : List Loc} {ls : Array Slot} (h : fX11_digest_b82 N r37 m_thrown m_above m_below m_tongue x1 x3 = some out) (hH : gm_H (dC, dI) A s (wX11_digest cI q q_tongue q_refused q_fresh q_kept q_isKept q_text q_said q_talk m_thrown m_size m_at m_start m_token m_value m_faultAt m_allowed m_firstPair m_secondPair m_above m_below m_tongue) H locs) (hl : lv_has ls 5 [(0, .ref q), (1, .long x1), (3, .int x3)]) : W p l e rX11_digest s m args below meth c H locs 0 0 (MQ below (gm_Q (dC, dI) [(cI, .int)] A (some (.long out.1)) (wX11_digest cI q q_tongue q_refused q_fresh q_kept q_isKept q_text q_said q_talk out.2 m_size m_at m_start m_token m_value m_faultAt m_allowed m_firstPair m_secondPair m_above m_below m_tongue)) args s 0 0 A) (F0 m 82 ls []) := by
  obtain ⟨hx, hb, hml, hr, hown, hts, hA, hK, hX, hlocks⟩ := id C0
  unfold fX11_digest_b82 at h
  refine lv_aload_n hx hb dX11_digest_82 rfl (lv_at hl 0 rfl) ?_
  refine lv_lload_n hx hb dX11_digest_83 rfl (lv_at hl 1 rfl) ?_
  refine lv_aload_n hx hb dX11_digest_84 rfl (lv_at hl 0 rfl) ?_
  refine gm_get (ci := 11) C0 hH inX11_digest_X11 0 2 3 rfl rfl (by decide) rfl rfl dX11_digest_85 ?_
  refine lv_iconst (v := 2) hx hb dX11_digest_88 (by decide) ?_
  obtain ⟨hi20, h⟩ := gm_chk_e h
  refine gm_iald C0 hH hi20 1 0 rfl rfl dX11_digest_89 ?_
  refine lv_iload_n hx hb dX11_digest_90 rfl (lv_at hl 2 rfl) ?_
  refine lv_ishr hx hb dX11_digest_91 ?_
  refine lv_iconst (v := 1) hx hb dX11_digest_92 (by decide) ?_
  refine lv_iand hx hb dX11_digest_93 ?_
  refine lv_i2l hx hb dX11_digest_94 rfl ?_
  obtain ⟨o21, ho21, h⟩ := gm_bind_e h
  refine gm_callV (As := [.long x1, .long (Int32.toInt64 (((m_tongue (Int32.toNatClampNeg 2)) >>> (x3 &&& 31)) &&& 1))]) (rest := []) (n := 2) (ci := 11) (q0 := 0) C0 hH (mX11_more l dC dI  q  x1 ((Int32.toInt64 (((m_tongue (Int32.toNatClampNeg 2)) >>> (x3 &&& 31)) &&& 1)))   ho21) gX11_digest_X11_more rfl (by decide +kernel) ⟨rfl, rfl, Nat.le_of_ble_eq_true rfl, Nat.le_of_ble_eq_true rfl⟩ gm_T_ok (fun _ => trivial) [] rfl rfl rfl [] rfl rfl rfl rfl hl.1 rfl (Nat.le_of_ble_eq_true rfl) dX11_digest_95 ⟨Nat.zero_le _, Nat.zero_le _⟩ (fun H locs hH => ?_)
  have hH : gm_H (dC, dI) A s (wX11_digest cI q q_tongue q_refused q_fresh q_kept q_isKept q_text q_said q_talk m_thrown m_size m_at m_start m_token m_value m_faultAt m_allowed m_firstPair m_secondPair m_above m_below m_tongue) H locs := hH
  refine lv_lstore_n (lv' := [(1, .long o21), (0, .ref q), (3, .int x3)]) hx hb dX11_digest_98 rfl hl (by decide) rfl (fun ls hl => ?_)
  refine lv_iinc (v := (x3 + 1)) (lv' := [(3, .int (x3 + 1)), (1, .long o21), (0, .ref q)]) hx hb dX11_digest_99 hl (k := 2) rfl rfl (by decide) rfl (fun ls hl => ?_)
  refine lv_goto (tgt := 37) hx hb dX11_digest_102 (by decide) ?_
  exact hr37 _ _ _ _ _ h hH (lv_sub hl [2, 1, 0] rfl)
set_option maxRecDepth 100000 in
set_option maxHeartbeats 4000000 in
theorem tX11_digest_b50 {p : Program} {l : Launch} {e : Env} {s : State} {m : MethodId} {args : Array Value} {below : List Frame} {meth : Method} {c : Code} {A : Nat → Prop} {dC : Nat → ClassId} {dI : Nat → Nat → Nat} {cI : ClassId} {q q_tongue q_refused q_fresh q_kept q_isKept q_text q_said q_talk : Nat} {m_thrown : Int32} {m_size : Int32} {m_at : Int32} {m_start : Int32} {m_token : Int32} {m_value : Int64} {m_faultAt : Int32} {m_allowed : Int32} {m_firstPair : Int32} {m_secondPair : Int32} {m_above : Int64} {m_below : Int64} {m_tongue : Nat → Int32} {x3 : Int32} (C0 : gm_C p s m args meth c (dC, dI) [(cI, .int)] A gm_T RX11 cX11_digest 5 (some .long) wsX11_digest) {N : Nat} {out : Int64 × Int32} {r37 : Int64 → Int32 → Option (Int64 × Int32)} (hr37 : ∀ (x1 : Int64) (x3 : Int32) (H : Heap) (locs : List Loc) (ls : Array Slot), r37 x1 x3 = some out → gm_H (dC, dI) A s (wX11_digest cI q q_tongue q_refused q_fresh q_kept q_isKept q_text q_said q_talk m_thrown m_size m_at m_start m_token m_value m_faultAt m_allowed m_firstPair m_secondPair m_above m_below m_tongue) H locs → lv_has ls 5 [(0, .ref q), (1, .long x1), (3, .int x3)] → W p l e rX11_digest s m args below meth c H locs 0 0 (MQ below (gm_Q (dC, dI) [(cI, .int)] A (some (.long out.1)) (wX11_digest cI q q_tongue q_refused q_fresh q_kept q_isKept q_text q_said q_talk out.2 m_size m_at m_start m_token m_value m_faultAt m_allowed m_firstPair m_secondPair m_above m_below m_tongue)) args s 0 0 A) (F0 m 37 ls []))  : ∀ (n : Nat), ∀ (x1 : Int64) (x4 : Int32) (H : Heap) (locs : List Loc) (ls : Array Slot), (gm_fix (fX11_digest_b50_body N r37 m_thrown m_above m_below m_tongue x3) (fun _ _ => none) n) x1 x4 = some out → gm_H (dC, dI) A s (wX11_digest cI q q_tongue q_refused q_fresh q_kept q_isKept q_text q_said q_talk m_thrown m_size m_at m_start m_token m_value m_faultAt m_allowed m_firstPair m_secondPair m_above m_below m_tongue) H locs → lv_has ls 5 [(0, .ref q), (1, .long x1), (3, .int x3), (4, .int x4)] → W p l e rX11_digest s m args below meth c H locs 0 0 (MQ below (gm_Q (dC, dI) [(cI, .int)] A (some (.long out.1)) (wX11_digest cI q q_tongue q_refused q_fresh q_kept q_isKept q_text q_said q_talk out.2 m_size m_at m_start m_token m_value m_faultAt m_allowed m_firstPair m_secondPair m_above m_below m_tongue)) args s 0 0 A) (F0 m 50 ls []) := by
  obtain ⟨hx, hb, hml, hr, hown, hts, hA, hK, hX, hlocks⟩ := id C0
  intro n
  induction n with
  | zero =>
    intro x1 x4 H locs ls h hH hl
    cases h
  | succ n hr50 =>
    intro x1 x4 H locs ls h hH hl
    rw [gm_fix_s] at h
    unfold fX11_digest_b50_body at h
    refine lv_iload hx hb dX11_digest_50 (lv_at hl 3 rfl) ?_
    refine lv_iconst (v := 3) hx hb dX11_digest_52 (by decide) ?_
    refine lv_icmp_ge (tgt := 82) hx hb dX11_digest_53 (by decide) (fun hc19 => ?_) (fun hc19 => ?_)
    · replace h := gm_pos hc19 h
      exact tX11_digest_b82 C0 hr37 h hH (lv_sub hl [0, 1, 2] rfl)
    · replace h := gm_neg hc19 h
      refine lv_aload_n hx hb dX11_digest_56 rfl (lv_at hl 0 rfl) ?_
      refine lv_lload_n hx hb dX11_digest_57 rfl (lv_at hl 1 rfl) ?_
      refine lv_aload_n hx hb dX11_digest_58 rfl (lv_at hl 0 rfl) ?_
      refine gm_get (ci := 11) C0 hH inX11_digest_X11 0 2 3 rfl rfl (by decide) rfl rfl dX11_digest_59 ?_
      refine lv_iconst (v := 5) hx hb dX11_digest_62 (by decide) ?_
      refine lv_iconst (v := 3) hx hb dX11_digest_63 (by decide) ?_
      refine lv_iload_n hx hb dX11_digest_64 rfl (lv_at hl 2 rfl) ?_
      refine lv_imul hx hb dX11_digest_65 ?_
      refine lv_iadd hx hb dX11_digest_66 ?_
      refine lv_iload hx hb dX11_digest_67 (lv_at hl 3 rfl) ?_
      refine lv_iadd hx hb dX11_digest_69 ?_
      obtain ⟨hi22, h⟩ := gm_chk_e h
      refine gm_iald C0 hH hi22 1 0 rfl rfl dX11_digest_70 ?_
      refine lv_i2l hx hb dX11_digest_71 rfl ?_
      obtain ⟨o23, ho23, h⟩ := gm_bind_e h
      refine gm_callV (As := [.long x1, .long (Int32.toInt64 (m_tongue (Int32.toNatClampNeg (((5 + (3 * x3)) + x4)))))]) (rest := []) (n := 2) (ci := 11) (q0 := 0) C0 hH (mX11_more l dC dI  q  x1 ((Int32.toInt64 (m_tongue (Int32.toNatClampNeg (((5 + (3 * x3)) + x4))))))   ho23) gX11_digest_X11_more rfl (by decide +kernel) ⟨rfl, rfl, Nat.le_of_ble_eq_true rfl, Nat.le_of_ble_eq_true rfl⟩ gm_T_ok (fun _ => trivial) [] rfl rfl rfl [] rfl rfl rfl rfl hl.1 rfl (Nat.le_of_ble_eq_true rfl) dX11_digest_72 ⟨Nat.zero_le _, Nat.zero_le _⟩ (fun H locs hH => ?_)
      have hH : gm_H (dC, dI) A s (wX11_digest cI q q_tongue q_refused q_fresh q_kept q_isKept q_text q_said q_talk m_thrown m_size m_at m_start m_token m_value m_faultAt m_allowed m_firstPair m_secondPair m_above m_below m_tongue) H locs := hH
      refine lv_lstore_n (lv' := [(1, .long o23), (0, .ref q), (3, .int x3), (4, .int x4)]) hx hb dX11_digest_75 rfl hl (by decide) rfl (fun ls hl => ?_)
      refine lv_iinc (v := (x4 + 1)) (lv' := [(4, .int (x4 + 1)), (1, .long o23), (0, .ref q), (3, .int x3)]) hx hb dX11_digest_76 hl (k := 3) rfl rfl (by decide) rfl (fun ls hl => ?_)
      refine lv_goto (tgt := 50) hx hb dX11_digest_79 (by decide) ?_
      exact hr50 _ _ _ _ _ h hH (lv_sub hl [2, 1, 3, 0] rfl)
set_option maxRecDepth 100000 in
set_option maxHeartbeats 4000000 in
theorem tX11_digest_b37 {p : Program} {l : Launch} {e : Env} {s : State} {m : MethodId} {args : Array Value} {below : List Frame} {meth : Method} {c : Code} {A : Nat → Prop} {dC : Nat → ClassId} {dI : Nat → Nat → Nat} {cI : ClassId} {q q_tongue q_refused q_fresh q_kept q_isKept q_text q_said q_talk : Nat} {m_thrown : Int32} {m_size : Int32} {m_at : Int32} {m_start : Int32} {m_token : Int32} {m_value : Int64} {m_faultAt : Int32} {m_allowed : Int32} {m_firstPair : Int32} {m_secondPair : Int32} {m_above : Int64} {m_below : Int64} {m_tongue : Nat → Int32} (C0 : gm_C p s m args meth c (dC, dI) [(cI, .int)] A gm_T RX11 cX11_digest 5 (some .long) wsX11_digest) {N : Nat} {out : Int64 × Int32}   : ∀ (n : Nat), ∀ (x1 : Int64) (x3 : Int32) (H : Heap) (locs : List Loc) (ls : Array Slot), (gm_fix (fX11_digest_b37_body N  m_thrown m_above m_below m_tongue) (fun _ _ => none) n) x1 x3 = some out → gm_H (dC, dI) A s (wX11_digest cI q q_tongue q_refused q_fresh q_kept q_isKept q_text q_said q_talk m_thrown m_size m_at m_start m_token m_value m_faultAt m_allowed m_firstPair m_secondPair m_above m_below m_tongue) H locs → lv_has ls 5 [(0, .ref q), (1, .long x1), (3, .int x3)] → W p l e rX11_digest s m args below meth c H locs 0 0 (MQ below (gm_Q (dC, dI) [(cI, .int)] A (some (.long out.1)) (wX11_digest cI q q_tongue q_refused q_fresh q_kept q_isKept q_text q_said q_talk out.2 m_size m_at m_start m_token m_value m_faultAt m_allowed m_firstPair m_secondPair m_above m_below m_tongue)) args s 0 0 A) (F0 m 37 ls []) := by
  obtain ⟨hx, hb, hml, hr, hown, hts, hA, hK, hX, hlocks⟩ := id C0
  intro n
  induction n with
  | zero =>
    intro x1 x3 H locs ls h hH hl
    cases h
  | succ n hr37 =>
    intro x1 x3 H locs ls h hH hl
    rw [gm_fix_s] at h
    unfold fX11_digest_b37_body at h
    refine lv_iload_n hx hb dX11_digest_37 rfl (lv_at hl 2 rfl) ?_
    refine lv_aload_n hx hb dX11_digest_38 rfl (lv_at hl 0 rfl) ?_
    refine gm_get (ci := 11) C0 hH inX11_digest_X11 0 2 3 rfl rfl (by decide) rfl rfl dX11_digest_39 ?_
    refine lv_iconst (v := 0) hx hb dX11_digest_42 (by decide) ?_
    obtain ⟨hi2, h⟩ := gm_chk_e h
    refine gm_iald C0 hH hi2 1 0 rfl rfl dX11_digest_43 ?_
    refine lv_icmp_ge (tgt := 105) hx hb dX11_digest_44 (by decide) (fun hc3 => ?_) (fun hc3 => ?_)
    · replace h := gm_pos hc3 h
      exact tX11_digest_b105 C0  h hH (lv_sub hl [0, 1] rfl)
    · replace h := gm_neg hc3 h
      refine lv_iconst (v := 0) hx hb dX11_digest_47 (by decide) ?_
      refine lv_istore (lv' := [(4, .int 0), (0, .ref q), (1, .long x1), (3, .int x3)]) hx hb dX11_digest_48 hl (by decide) rfl (fun ls hl => ?_)
      unfold fX11_digest_b50 at h
      exact tX11_digest_b50 C0 hr37 _ _ _ _ _ _ h hH (lv_sub hl [1, 2, 3, 0] rfl)
set_option maxRecDepth 100000 in
set_option maxHeartbeats 4000000 in
theorem tX11_digest_b35 {p : Program} {l : Launch} {e : Env} {s : State} {m : MethodId} {args : Array Value} {below : List Frame} {meth : Method} {c : Code} {A : Nat → Prop} {dC : Nat → ClassId} {dI : Nat → Nat → Nat} {cI : ClassId} {q q_tongue q_refused q_fresh q_kept q_isKept q_text q_said q_talk : Nat} {m_thrown : Int32} {m_size : Int32} {m_at : Int32} {m_start : Int32} {m_token : Int32} {m_value : Int64} {m_faultAt : Int32} {m_allowed : Int32} {m_firstPair : Int32} {m_secondPair : Int32} {m_above : Int64} {m_below : Int64} {m_tongue : Nat → Int32} {x1 : Int64} (C0 : gm_C p s m args meth c (dC, dI) [(cI, .int)] A gm_T RX11 cX11_digest 5 (some .long) wsX11_digest) {N : Nat} {out : Int64 × Int32}    {H : Heap} {locs : List Loc} {ls : Array Slot} (h : fX11_digest_b35 N  m_thrown m_above m_below m_tongue x1 = some out) (hH : gm_H (dC, dI) A s (wX11_digest cI q q_tongue q_refused q_fresh q_kept q_isKept q_text q_said q_talk m_thrown m_size m_at m_start m_token m_value m_faultAt m_allowed m_firstPair m_secondPair m_above m_below m_tongue) H locs) (hl : lv_has ls 5 [(0, .ref q), (1, .long x1)]) : W p l e rX11_digest s m args below meth c H locs 0 0 (MQ below (gm_Q (dC, dI) [(cI, .int)] A (some (.long out.1)) (wX11_digest cI q q_tongue q_refused q_fresh q_kept q_isKept q_text q_said q_talk out.2 m_size m_at m_start m_token m_value m_faultAt m_allowed m_firstPair m_secondPair m_above m_below m_tongue)) args s 0 0 A) (F0 m 35 ls []) := by
  obtain ⟨hx, hb, hml, hr, hown, hts, hA, hK, hX, hlocks⟩ := id C0
  unfold fX11_digest_b35 at h
  refine lv_iconst (v := 0) hx hb dX11_digest_35 (by decide) ?_
  refine lv_istore_n (lv' := [(3, .int 0), (0, .ref q), (1, .long x1)]) hx hb dX11_digest_36 rfl hl (by decide) rfl (fun ls hl => ?_)
  unfold fX11_digest_b37 at h
  exact tX11_digest_b37 C0  _ _ _ _ _ _ h hH (lv_sub hl [1, 2, 0] rfl)
set_option maxRecDepth 100000 in
set_option maxHeartbeats 4000000 in
theorem tX11_digest_b11 {p : Program} {l : Launch} {e : Env} {s : State} {m : MethodId} {args : Array Value} {below : List Frame} {meth : Method} {c : Code} {A : Nat → Prop} {dC : Nat → ClassId} {dI : Nat → Nat → Nat} {cI : ClassId} {q q_tongue q_refused q_fresh q_kept q_isKept q_text q_said q_talk : Nat} {m_thrown : Int32} {m_size : Int32} {m_at : Int32} {m_start : Int32} {m_token : Int32} {m_value : Int64} {m_faultAt : Int32} {m_allowed : Int32} {m_firstPair : Int32} {m_secondPair : Int32} {m_above : Int64} {m_below : Int64} {m_tongue : Nat → Int32} (C0 : gm_C p s m args meth c (dC, dI) [(cI, .int)] A gm_T RX11 cX11_digest 5 (some .long) wsX11_digest) {N : Nat} {out : Int64 × Int32}   : ∀ (n : Nat), ∀ (x1 : Int64) (x3 : Int32) (H : Heap) (locs : List Loc) (ls : Array Slot), (gm_fix (fX11_digest_b11_body N  m_thrown m_size m_above m_below m_tongue) (fun _ _ => none) n) x1 x3 = some out → gm_H (dC, dI) A s (wX11_digest cI q q_tongue q_refused q_fresh q_kept q_isKept q_text q_said q_talk m_thrown m_size m_at m_start m_token m_value m_faultAt m_allowed m_firstPair m_secondPair m_above m_below m_tongue) H locs → lv_has ls 5 [(0, .ref q), (1, .long x1), (3, .int x3)] → W p l e rX11_digest s m args below meth c H locs 0 0 (MQ below (gm_Q (dC, dI) [(cI, .int)] A (some (.long out.1)) (wX11_digest cI q q_tongue q_refused q_fresh q_kept q_isKept q_text q_said q_talk out.2 m_size m_at m_start m_token m_value m_faultAt m_allowed m_firstPair m_secondPair m_above m_below m_tongue)) args s 0 0 A) (F0 m 11 ls []) := by
  obtain ⟨hx, hb, hml, hr, hown, hts, hA, hK, hX, hlocks⟩ := id C0
  intro n
  induction n with
  | zero =>
    intro x1 x3 H locs ls h hH hl
    cases h
  | succ n hr11 =>
    intro x1 x3 H locs ls h hH hl
    rw [gm_fix_s] at h
    unfold fX11_digest_b11_body at h
    refine lv_iload_n hx hb dX11_digest_11 rfl (lv_at hl 2 rfl) ?_
    refine lv_bipush (v := 7) hx hb dX11_digest_12 (by decide) ?_
    refine lv_icmp_ge (tgt := 35) hx hb dX11_digest_14 (by decide) (fun hc1 => ?_) (fun hc1 => ?_)
    · replace h := gm_pos hc1 h
      exact tX11_digest_b35 C0  h hH (lv_sub hl [0, 1] rfl)
    · replace h := gm_neg hc1 h
      refine lv_aload_n hx hb dX11_digest_17 rfl (lv_at hl 0 rfl) ?_
      refine lv_lload_n hx hb dX11_digest_18 rfl (lv_at hl 1 rfl) ?_
      refine lv_aload_n hx hb dX11_digest_19 rfl (lv_at hl 0 rfl) ?_
      refine lv_iload_n hx hb dX11_digest_20 rfl (lv_at hl 2 rfl) ?_
      obtain ⟨o24, ho24, h⟩ := gm_bind_e h
      refine gm_callV (As := [.int x3]) (rest := [.long x1, .ref q]) (n := 1) (ci := 11) (q0 := 0) C0 hH (mX11_countOf l dC dI cI q q_tongue q_refused q_fresh q_kept q_isKept q_text q_said q_talk m_thrown m_size m_at m_start m_token m_value m_faultAt m_allowed m_firstPair m_secondPair m_above m_below m_tongue x3   ho24) gX11_digest_X11_countOf rfl (by decide +kernel) ⟨rfl, rfl, Nat.le_of_ble_eq_true rfl, Nat.le_of_ble_eq_true rfl⟩ gm_T_ok (fun _ => trivial) [0, 1] rfl rfl rfl [0] rfl rfl rfl rfl hl.1 rfl (Nat.le_of_ble_eq_true rfl) dX11_digest_21 ⟨Nat.zero_le _, Nat.zero_le _⟩ (fun H locs hH => ?_)
      have hH : gm_H (dC, dI) A s (wX11_digest cI q q_tongue q_refused q_fresh q_kept q_isKept q_text q_said q_talk m_thrown m_size m_at m_start m_token m_value m_faultAt m_allowed m_firstPair m_secondPair m_above m_below m_tongue) H locs := hH
      refine lv_i2l hx hb dX11_digest_24 rfl ?_
      obtain ⟨o25, ho25, h⟩ := gm_bind_e h
      refine gm_callV (As := [.long x1, .long (Int32.toInt64 o24)]) (rest := []) (n := 2) (ci := 11) (q0 := 0) C0 hH (mX11_more l dC dI  q  x1 ((Int32.toInt64 o24))   ho25) gX11_digest_X11_more rfl (by decide +kernel) ⟨rfl, rfl, Nat.le_of_ble_eq_true rfl, Nat.le_of_ble_eq_true rfl⟩ gm_T_ok (fun _ => trivial) [] rfl rfl rfl [] rfl rfl rfl rfl hl.1 rfl (Nat.le_of_ble_eq_true rfl) dX11_digest_25 ⟨Nat.zero_le _, Nat.zero_le _⟩ (fun H locs hH => ?_)
      have hH : gm_H (dC, dI) A s (wX11_digest cI q q_tongue q_refused q_fresh q_kept q_isKept q_text q_said q_talk m_thrown m_size m_at m_start m_token m_value m_faultAt m_allowed m_firstPair m_secondPair m_above m_below m_tongue) H locs := hH
      refine lv_lstore_n (lv' := [(1, .long o25), (0, .ref q), (3, .int x3)]) hx hb dX11_digest_28 rfl hl (by decide) rfl (fun ls hl => ?_)
      refine lv_iinc (v := (x3 + 1)) (lv' := [(3, .int (x3 + 1)), (1, .long o25), (0, .ref q)]) hx hb dX11_digest_29 hl (k := 2) rfl rfl (by decide) rfl (fun ls hl => ?_)
      refine lv_goto (tgt := 11) hx hb dX11_digest_32 (by decide) ?_
      exact hr11 _ _ _ _ _ h hH (lv_sub hl [2, 1, 0] rfl)
set_option maxRecDepth 100000 in
set_option maxHeartbeats 4000000 in
theorem mX11_digest (l : Launch) (dC : Nat → ClassId) (dI : Nat → Nat → Nat) (cI : ClassId) (q q_tongue q_refused q_fresh q_kept q_isKept q_text q_said q_talk : Nat) (m_thrown : Int32) (m_size : Int32) (m_at : Int32) (m_start : Int32) (m_token : Int32) (m_value : Int64) (m_faultAt : Int32) (m_allowed : Int32) (m_firstPair : Int32) (m_secondPair : Int32) (m_above : Int64) (m_below : Int64) (m_tongue : Nat → Int32)   {N : Nat} {out : Int64 × Int32} (h : fX11_digest N m_thrown m_size m_above m_below m_tongue = some out) : gm_Met l yX11_digest wsX11_digest rX11_digest (dC, dI) [(cI, .int)] gm_T [.ref q] (wX11_digest cI q q_tongue q_refused q_fresh q_kept q_isKept q_text q_said q_talk m_thrown m_size m_at m_start m_token m_value m_faultAt m_allowed m_firstPair m_secondPair m_above m_below m_tongue) (some (.long out.1)) (wX11_digest cI q q_tongue q_refused q_fresh q_kept q_isKept q_text q_said q_talk out.2 m_size m_at m_start m_token m_value m_faultAt m_allowed m_firstPair m_secondPair m_above m_below m_tongue) := by
  refine gm_ofW (cc := cX11_digest) (maxL := 5) (ret := (some .long)) (by decide +kernel) rfl (Nat.le_of_ble_eq_true rfl) ?_
  intro p e s m below meth c A C0 hH ls hl
  generalize ([.ref q] : List Value).toArray = args at C0 ⊢
  have hl : lv_has ls 5 [(0, .ref q)] := hl
  generalize s.heap = H at hH ⊢
  generalize ([] : List Loc) = locs at hH ⊢
  obtain ⟨hx, hb, hml, hr, hown, hts, hA, hK, hX, hlocks⟩ := id C0
  unfold fX11_digest at h
  refine lv_aload_n hx hb dX11_digest_0 rfl (lv_at hl 0 rfl) ?_
  refine lv_iconst (v := 0) hx hb dX11_digest_1 (by decide) ?_
  refine gm_putf (ci := 11) C0 hH inX11_digest_X11 tyX11_ok nmX11 0 0 1 rfl rfl (by decide) rfl rfl rfl rfl rfl (Nat.le_of_ble_eq_true rfl) dX11_digest_2 (fun H locs hH => ?_)
  have hH : gm_H (dC, dI) A s (wX11_digest cI q q_tongue q_refused q_fresh q_kept q_isKept q_text q_said q_talk 0 m_size m_at m_start m_token m_value m_faultAt m_allowed m_firstPair m_secondPair m_above m_below m_tongue) H locs := hH
  refine lv_ldc2 (own := RX11) (v := 929) hx hb hown (gm_at C0 2 rfl) dX11_digest_5 ?_
  refine lv_lstore_n (lv' := [(1, .long 929), (0, .ref q)]) hx hb dX11_digest_8 rfl hl (by decide) rfl (fun ls hl => ?_)
  refine lv_iconst (v := 0) hx hb dX11_digest_9 (by decide) ?_
  refine lv_istore_n (lv' := [(3, .int 0), (1, .long 929), (0, .ref q)]) hx hb dX11_digest_10 rfl hl (by decide) rfl (fun ls hl => ?_)
  unfold fX11_digest_b11 at h
  exact tX11_digest_b11 C0  _ _ _ _ _ _ h hH (lv_sub hl [2, 1, 0] rfl)
