/-! X2_firstWins -/
abbrev wX2_firstWins (cI : ClassId) (q q_chimesOfFirst q_chimesOfSecond q_lasts : Nat) (m_words : Int32) (m_saidAtFirst : Int32) (m_asked : Int32) (m_longest : Int32) (m_shortest : Int32) (m_chimesOfFirst : Nat → Int32) (m_chimesOfSecond : Nat → Int32) (m_lasts : Nat → Int32) : va_W := [(q, .inr (2, [.ref q_chimesOfFirst, .ref q_chimesOfSecond, .ref q_lasts, .int m_words, .int m_saidAtFirst, .int m_asked, .int m_longest, .int m_shortest])), (q_chimesOfFirst, .inl (cI, 10, .inl m_chimesOfFirst)), (q_chimesOfSecond, .inl (cI, 10, .inl m_chimesOfSecond)), (q_lasts, .inl (cI, 1024, .inl m_lasts))]
abbrev rX2_firstWins : Room := { frames := 3, cells := 0, slots := 0, locals := 62 }
def fX2_firstWins_b95 (N : Nat)  (m_saidAtFirst : Int32) (m_asked : Int32) (m_lasts : Nat → Int32) : Option (Int32 × (Nat → Int32)) := gm_chk m_saidAtFirst 1024 ((if (((m_lasts (Int32.toNatClampNeg m_saidAtFirst)) >>> (m_asked &&& 31)) &&& 1) = 1 then some (1, m_lasts) else some (0, m_lasts)))
def fX2_firstWins_b89 (N : Nat) (r9 : (Nat → Int32) → Int32 → Option (Int32 × (Nat → Int32))) (m_words : Int32) (m_saidAtFirst : Int32) (m_asked : Int32) (m_chimesOfFirst : Nat → Int32) (m_chimesOfSecond : Nat → Int32) (m_lasts : Nat → Int32) (x1 : Int32) : Option (Int32 × (Nat → Int32)) := (r9 m_lasts ((x1 + (-1))))
def fX2_firstWins_b83 (N : Nat) (r9 : (Nat → Int32) → Int32 → Option (Int32 × (Nat → Int32))) (r52 : (Nat → Int32) → Int32 → Option (Int32 × (Nat → Int32))) (m_words : Int32) (m_saidAtFirst : Int32) (m_asked : Int32) (m_chimesOfFirst : Nat → Int32) (m_chimesOfSecond : Nat → Int32) (m_lasts : Nat → Int32) (x1 : Int32) (x3 : Int32) (x4 : Int32) : Option (Int32 × (Nat → Int32)) := (r52 m_lasts ((x4 + 1)))
def fX2_firstWins_b52_body (N : Nat) (r9 : (Nat → Int32) → Int32 → Option (Int32 × (Nat → Int32))) (m_words : Int32) (m_saidAtFirst : Int32) (m_asked : Int32) (m_chimesOfFirst : Nat → Int32) (m_chimesOfSecond : Nat → Int32) (x1 : Int32) (x3 : Int32) (r52 : (Nat → Int32) → Int32 → Option (Int32 × (Nat → Int32))) (m_lasts : Nat → Int32) (x4 : Int32) : Option (Int32 × (Nat → Int32)) := (if m_words ≤ x4 then (fX2_firstWins_b89 N r9 m_words m_saidAtFirst m_asked m_chimesOfFirst m_chimesOfSecond m_lasts x1) else gm_chk x4 10 ((if ((m_chimesOfFirst (Int32.toNatClampNeg x4)) &&& x3) = 0 then (fX2_firstWins_b83 N r9 r52 m_words m_saidAtFirst m_asked m_chimesOfFirst m_chimesOfSecond m_lasts x1 x3 x4) else gm_chk x1 1024 (gm_chk x1 1024 ((fX2_firstWins_b83 N r9 r52 m_words m_saidAtFirst m_asked m_chimesOfFirst m_chimesOfSecond (upd m_lasts (Int32.toNatClampNeg x1) (((m_lasts (Int32.toNatClampNeg x1)) ||| ((1 : Int32) <<< (x4 &&& 31))))) x1 x3 x4))))))
def fX2_firstWins_b52 (N : Nat) (r9 : (Nat → Int32) → Int32 → Option (Int32 × (Nat → Int32))) (m_words : Int32) (m_saidAtFirst : Int32) (m_asked : Int32) (m_chimesOfFirst : Nat → Int32) (m_chimesOfSecond : Nat → Int32) (x1 : Int32) (x3 : Int32) (m_lasts : Nat → Int32) (x4 : Int32) : Option (Int32 × (Nat → Int32)) := gm_fix (fX2_firstWins_b52_body N r9 m_words m_saidAtFirst m_asked m_chimesOfFirst m_chimesOfSecond x1 x3) (fun _ _ => none) N m_lasts x4
def fX2_firstWins_b83x (N : Nat) (r9 : (Nat → Int32) → Int32 → Option (Int32 × (Nat → Int32))) (r52 : (Nat → Int32) → Int32 → Option (Int32 × (Nat → Int32))) (m_words : Int32) (m_saidAtFirst : Int32) (m_asked : Int32) (m_chimesOfFirst : Nat → Int32) (m_chimesOfSecond : Nat → Int32) (m_lasts : Nat → Int32) (x1 : Int32) (x3 : Int32) (x4 : Int32) : Option (Int32 × (Nat → Int32)) := (r52 m_lasts ((x4 + 1)))
def fX2_firstWins_b52x_body (N : Nat) (r9 : (Nat → Int32) → Int32 → Option (Int32 × (Nat → Int32))) (m_words : Int32) (m_saidAtFirst : Int32) (m_asked : Int32) (m_chimesOfFirst : Nat → Int32) (m_chimesOfSecond : Nat → Int32) (x1 : Int32) (x3 : Int32) (r52 : (Nat → Int32) → Int32 → Option (Int32 × (Nat → Int32))) (m_lasts : Nat → Int32) (x4 : Int32) : Option (Int32 × (Nat → Int32)) := (if m_words ≤ x4 then (fX2_firstWins_b89 N r9 m_words m_saidAtFirst m_asked m_chimesOfFirst m_chimesOfSecond m_lasts x1) else gm_chk x4 10 ((if ((m_chimesOfSecond (Int32.toNatClampNeg x4)) &&& x3) = 0 then (fX2_firstWins_b83x N r9 r52 m_words m_saidAtFirst m_asked m_chimesOfFirst m_chimesOfSecond m_lasts x1 x3 x4) else gm_chk x1 1024 (gm_chk x1 1024 ((fX2_firstWins_b83x N r9 r52 m_words m_saidAtFirst m_asked m_chimesOfFirst m_chimesOfSecond (upd m_lasts (Int32.toNatClampNeg x1) (((m_lasts (Int32.toNatClampNeg x1)) ||| ((1 : Int32) <<< (x4 &&& 31))))) x1 x3 x4))))))
def fX2_firstWins_b52x (N : Nat) (r9 : (Nat → Int32) → Int32 → Option (Int32 × (Nat → Int32))) (m_words : Int32) (m_saidAtFirst : Int32) (m_asked : Int32) (m_chimesOfFirst : Nat → Int32) (m_chimesOfSecond : Nat → Int32) (x1 : Int32) (x3 : Int32) (m_lasts : Nat → Int32) (x4 : Int32) : Option (Int32 × (Nat → Int32)) := gm_fix (fX2_firstWins_b52x_body N r9 m_words m_saidAtFirst m_asked m_chimesOfFirst m_chimesOfSecond x1 x3) (fun _ _ => none) N m_lasts x4
def fX2_firstWins_b9_body (N : Nat)  (m_words : Int32) (m_saidAtFirst : Int32) (m_asked : Int32) (m_chimesOfFirst : Nat → Int32) (m_chimesOfSecond : Nat → Int32) (r9 : (Nat → Int32) → Int32 → Option (Int32 × (Nat → Int32))) (m_lasts : Nat → Int32) (x1 : Int32) : Option (Int32 × (Nat → Int32)) := (if x1 < m_saidAtFirst then (fX2_firstWins_b95 N  m_saidAtFirst m_asked m_lasts) else (if (x1 &&& m_saidAtFirst) = m_saidAtFirst then gm_bind (fX2_chimesOfNext N m_saidAtFirst x1) (fun o6 => if o6 = 0 then gm_bind (fX2_traps N m_words m_lasts x1) (fun o7 => gm_chk x1 1024 ((fX2_firstWins_b52 N r9 m_words m_saidAtFirst m_asked m_chimesOfFirst m_chimesOfSecond x1 o7 (upd m_lasts (Int32.toNatClampNeg x1) 0) 0))) else gm_bind (fX2_traps N m_words m_lasts x1) (fun o14 => gm_chk x1 1024 ((fX2_firstWins_b52x N r9 m_words m_saidAtFirst m_asked m_chimesOfFirst m_chimesOfSecond x1 o14 (upd m_lasts (Int32.toNatClampNeg x1) 0) 0)))) else (fX2_firstWins_b89 N r9 m_words m_saidAtFirst m_asked m_chimesOfFirst m_chimesOfSecond m_lasts x1)))
def fX2_firstWins_b9 (N : Nat)  (m_words : Int32) (m_saidAtFirst : Int32) (m_asked : Int32) (m_chimesOfFirst : Nat → Int32) (m_chimesOfSecond : Nat → Int32) (m_lasts : Nat → Int32) (x1 : Int32) : Option (Int32 × (Nat → Int32)) := gm_fix (fX2_firstWins_b9_body N  m_words m_saidAtFirst m_asked m_chimesOfFirst m_chimesOfSecond) (fun _ _ => none) N m_lasts x1
def fX2_firstWins (N : Nat) (m_words : Int32) (m_saidAtFirst : Int32) (m_asked : Int32) (m_chimesOfFirst : Nat → Int32) (m_chimesOfSecond : Nat → Int32) (m_lasts : Nat → Int32)  : Option (Int32 × (Nat → Int32)) := gm_let ((((1 : Int32) <<< (m_words &&& 31)) - 1) : Int32) (fun (v1 : Int32) => (fX2_firstWins_b9 N  m_words m_saidAtFirst m_asked m_chimesOfFirst m_chimesOfSecond m_lasts v1))
set_option maxRecDepth 20000 in
theorem inX2_firstWins_X2 : ∀ w ∈ u_ws RX2 TX2 8, w ∈ wsX2_firstWins := fun w h => by
  obtain ⟨k, hk, rfl⟩ := List.mem_map.mp h
  have hk2 := List.mem_range.mp hk
  exact List.mem_of_getElem? (i := 27 + k) (by rcases (show k = 0 ∨ k = 1 ∨ k = 2 ∨ k = 3 ∨ k = 4 ∨ k = 5 ∨ k = 6 ∨ k = 7 by omega) with rfl | rfl | rfl | rfl | rfl | rfl | rfl | rfl <;> rfl)
set_option maxRecDepth 100000 in
set_option maxHeartbeats 4000000 in
theorem tX2_firstWins_b95 {p : Program} {l : Launch} {e : Env} {s : State} {m : MethodId} {args : Array Value} {below : List Frame} {meth : Method} {c : Code} {A : Nat → Prop} {dC : Nat → ClassId} {dI : Nat → Nat → Nat} {cI : ClassId} {q q_chimesOfFirst q_chimesOfSecond q_lasts : Nat} {m_words : Int32} {m_saidAtFirst : Int32} {m_asked : Int32} {m_longest : Int32} {m_shortest : Int32} {m_chimesOfFirst : Nat → Int32} {m_chimesOfSecond : Nat → Int32} {m_lasts : Nat → Int32} (C0 : gm_C p s m args meth c (dC, dI) [(cI, .int)] A gm_T RX2 cX2_firstWins 5 (some .boolean) wsX2_firstWins) {N : Nat} {out : Int32 × (Nat → Int32)}    {H : Heap} {locs : List Loc} {ls : Array Slot} (h : fX2_firstWins_b95 N  m_saidAtFirst m_asked m_lasts = some out) (hH : gm_H (dC, dI) A s (wX2_firstWins cI q q_chimesOfFirst q_chimesOfSecond q_lasts m_words m_saidAtFirst m_asked m_longest m_shortest m_chimesOfFirst m_chimesOfSecond m_lasts) H locs) (hl : lv_has ls 5 [(0, .ref q)]) : W p l e rX2_firstWins s m args below meth c H locs 0 0 (MQ below (gm_Q (dC, dI) [(cI, .int)] A (some (.int out.1)) (wX2_firstWins cI q q_chimesOfFirst q_chimesOfSecond q_lasts m_words m_saidAtFirst m_asked m_longest m_shortest m_chimesOfFirst m_chimesOfSecond out.2)) args s 0 0 A) (F0 m 95 ls []) := by
  obtain ⟨hx, hb, hml, hr, hown, hts, hA, hK, hX, hlocks⟩ := id C0
  unfold fX2_firstWins_b95 at h
  refine lv_aload_n hx hb dX2_firstWins_95 rfl (lv_at hl 0 rfl) ?_
  refine gm_get (ci := 2) C0 hH inX2_firstWins_X2 0 2 3 rfl rfl (by decide) rfl rfl dX2_firstWins_96 ?_
  refine lv_aload_n hx hb dX2_firstWins_99 rfl (lv_at hl 0 rfl) ?_
  refine gm_get (ci := 2) C0 hH inX2_firstWins_X2 0 4 2 rfl rfl (by decide) rfl rfl dX2_firstWins_100 ?_
  obtain ⟨hi3, h⟩ := gm_chk_e h
  refine gm_iald C0 hH hi3 3 0 rfl rfl dX2_firstWins_103 ?_
  refine lv_aload_n hx hb dX2_firstWins_104 rfl (lv_at hl 0 rfl) ?_
  refine gm_get (ci := 2) C0 hH inX2_firstWins_X2 0 5 4 rfl rfl (by decide) rfl rfl dX2_firstWins_105 ?_
  refine lv_ishr hx hb dX2_firstWins_108 ?_
  refine lv_iconst (v := 1) hx hb dX2_firstWins_109 (by decide) ?_
  refine lv_iand hx hb dX2_firstWins_110 ?_
  refine lv_iconst (v := 1) hx hb dX2_firstWins_111 (by decide) ?_
  refine lv_icmp_ne (tgt := 119) hx hb dX2_firstWins_112 (by decide) (fun hc4 => ?_) (fun hc4 => ?_)
  · replace h := gm_neg hc4 h
    refine lv_iconst (v := 0) hx hb dX2_firstWins_119 (by decide) ?_
    obtain rfl := Option.some.inj h
    exact gm_zret C0 hH (show narrow .boolean (.int 0) = .int 0 by decide) dX2_firstWins_120
  · replace h := gm_pos hc4 h
    refine lv_iconst (v := 1) hx hb dX2_firstWins_115 (by decide) ?_
    refine lv_goto (tgt := 120) hx hb dX2_firstWins_116 (by decide) ?_
    obtain rfl := Option.some.inj h
    exact gm_zret C0 hH (show narrow .boolean (.int 1) = .int 1 by decide) dX2_firstWins_120
set_option maxRecDepth 100000 in
set_option maxHeartbeats 4000000 in
theorem tX2_firstWins_b89 {p : Program} {l : Launch} {e : Env} {s : State} {m : MethodId} {args : Array Value} {below : List Frame} {meth : Method} {c : Code} {A : Nat → Prop} {dC : Nat → ClassId} {dI : Nat → Nat → Nat} {cI : ClassId} {q q_chimesOfFirst q_chimesOfSecond q_lasts : Nat} {m_words : Int32} {m_saidAtFirst : Int32} {m_asked : Int32} {m_longest : Int32} {m_shortest : Int32} {m_chimesOfFirst : Nat → Int32} {m_chimesOfSecond : Nat → Int32} {m_lasts : Nat → Int32} {x1 : Int32} (C0 : gm_C p s m args meth c (dC, dI) [(cI, .int)] A gm_T RX2 cX2_firstWins 5 (some .boolean) wsX2_firstWins) {N : Nat} {out : Int32 × (Nat → Int32)} {r9 : (Nat → Int32) → Int32 → Option (Int32 × (Nat → Int32))} (hr9 : ∀ (m_lasts : Nat → Int32) (x1 : Int32) (H : Heap) (locs : List Loc) (ls : Array Slot), r9 m_lasts x1 = some out → gm_H (dC, dI) A s (wX2_firstWins cI q q_chimesOfFirst q_chimesOfSecond q_lasts m_words m_saidAtFirst m_asked m_longest m_shortest m_chimesOfFirst m_chimesOfSecond m_lasts) H locs → lv_has ls 5 [(0, .ref q), (1, .int x1)] → W p l e rX2_firstWins s m args below meth c H locs 0 0 (MQ below (gm_Q (dC, dI) [(cI, .int)] A (some (.int out.1)) (wX2_firstWins cI q q_chimesOfFirst q_chimesOfSecond q_lasts m_words m_saidAtFirst m_asked m_longest m_shortest m_chimesOfFirst m_chimesOfSecond out.2)) args s 0 0 A) (F0 m 9 ls []))   {H : Heap} {locs : List Loc} {ls : Array Slot} (h : fX2_firstWins_b89 N r9 m_words m_saidAtFirst m_asked m_chimesOfFirst m_chimesOfSecond m_lasts x1 = some out) (hH : gm_H (dC, dI) A s (wX2_firstWins cI q q_chimesOfFirst q_chimesOfSecond q_lasts m_words m_saidAtFirst m_asked m_longest m_shortest m_chimesOfFirst m_chimesOfSecond m_lasts) H locs) (hl : lv_has ls 5 [(0, .ref q), (1, .int x1)]) : W p l e rX2_firstWins s m args below meth c H locs 0 0 (MQ below (gm_Q (dC, dI) [(cI, .int)] A (some (.int out.1)) (wX2_firstWins cI q q_chimesOfFirst q_chimesOfSecond q_lasts m_words m_saidAtFirst m_asked m_longest m_shortest m_chimesOfFirst m_chimesOfSecond out.2)) args s 0 0 A) (F0 m 89 ls []) := by
  obtain ⟨hx, hb, hml, hr, hown, hts, hA, hK, hX, hlocks⟩ := id C0
  unfold fX2_firstWins_b89 at h
  refine lv_iinc (v := (x1 + (-1))) (lv' := [(1, .int (x1 + (-1))), (0, .ref q)]) hx hb dX2_firstWins_89 hl (k := 1) rfl rfl (by decide) rfl (fun ls hl => ?_)
  refine lv_goto (tgt := 9) hx hb dX2_firstWins_92 (by decide) ?_
  exact hr9 _ _ _ _ _ h hH (lv_sub hl [1, 0] rfl)
set_option maxRecDepth 100000 in
set_option maxHeartbeats 4000000 in
theorem tX2_firstWins_b83 {p : Program} {l : Launch} {e : Env} {s : State} {m : MethodId} {args : Array Value} {below : List Frame} {meth : Method} {c : Code} {A : Nat → Prop} {dC : Nat → ClassId} {dI : Nat → Nat → Nat} {cI : ClassId} {q q_chimesOfFirst q_chimesOfSecond q_lasts : Nat} {m_words : Int32} {m_saidAtFirst : Int32} {m_asked : Int32} {m_longest : Int32} {m_shortest : Int32} {m_chimesOfFirst : Nat → Int32} {m_chimesOfSecond : Nat → Int32} {m_lasts : Nat → Int32} {x1 : Int32} {x3 : Int32} {x4 : Int32} (C0 : gm_C p s m args meth c (dC, dI) [(cI, .int)] A gm_T RX2 cX2_firstWins 5 (some .boolean) wsX2_firstWins) {N : Nat} {out : Int32 × (Nat → Int32)} {r9 : (Nat → Int32) → Int32 → Option (Int32 × (Nat → Int32))} (hr9 : ∀ (m_lasts : Nat → Int32) (x1 : Int32) (H : Heap) (locs : List Loc) (ls : Array Slot), r9 m_lasts x1 = some out → gm_H (dC, dI) A s (wX2_firstWins cI q q_chimesOfFirst q_chimesOfSecond q_lasts m_words m_saidAtFirst m_asked m_longest m_shortest m_chimesOfFirst m_chimesOfSecond m_lasts) H locs → lv_has ls 5 [(0, .ref q), (1, .int x1)] → W p l e rX2_firstWins s m args below meth c H locs 0 0 (MQ below (gm_Q (dC, dI) [(cI, .int)] A (some (.int out.1)) (wX2_firstWins cI q q_chimesOfFirst q_chimesOfSecond q_lasts m_words m_saidAtFirst m_asked m_longest m_shortest m_chimesOfFirst m_chimesOfSecond out.2)) args s 0 0 A) (F0 m 9 ls [])) {r52 : (Nat → Int32) → Int32 → Option (Int32 × (Nat → Int32))} (hr52 : ∀ (m_lasts : Nat → Int32) (x4 : Int32) (H : Heap) (locs : List Loc) (ls : Array Slot), r52 m_lasts x4 = some out → gm_H (dC, dI) A s (wX2_firstWins cI q q_chimesOfFirst q_chimesOfSecond q_lasts m_words m_saidAtFirst m_asked m_longest m_shortest m_chimesOfFirst m_chimesOfSecond m_lasts) H locs → lv_has ls 5 [(0, .ref q), (1, .int x1), (2, .ref q_chimesOfFirst), (3, .int x3), (4, .int x4)] → W p l e rX2_firstWins s m args below meth c H locs 0 0 (MQ below (gm_Q (dC, dI) [(cI, .int)] A (some (.int out.1)) (wX2_firstWins cI q q_chimesOfFirst q_chimesOfSecond q_lasts m_words m_saidAtFirst m_asked m_longest m_shortest m_chimesOfFirst m_chimesOfSecond out.2)) args s 0 0 A) (F0 m 52 ls []))   {H : Heap} {locs : List Loc} {ls : Array Slot} (h : fX2_firstWins_b83 N r9 r52 m_words m_saidAtFirst m_asked m_chimesOfFirst m_chimesOfSecond m_lasts x1 x3 x4 = some out) (hH : gm_H (dC, dI) A s (wX2_firstWins cI q q_chimesOfFirst q_chimesOfSecond q_lasts m_words m_saidAtFirst m_asked m_longest m_shortest m_chimesOfFirst m_chimesOfSecond m_lasts) H locs) (hl : lv_has ls 5 [(0, .ref q), (1, .int x1), (2, .ref q_chimesOfFirst), (3, .int x3), (4, .int x4)]) : W p l e rX2_firstWins s m args below meth c H locs 0 0 (MQ below (gm_Q (dC, dI) [(cI, .int)] A (some (.int out.1)) (wX2_firstWins cI q q_chimesOfFirst q_chimesOfSecond q_lasts m_words m_saidAtFirst m_asked m_longest m_shortest m_chimesOfFirst m_chimesOfSecond out.2)) args s 0 0 A) (F0 m 83 ls []) := by
  obtain ⟨hx, hb, hml, hr, hown, hts, hA, hK, hX, hlocks⟩ := id C0
  unfold fX2_firstWins_b83 at h
  refine lv_iinc (v := (x4 + 1)) (lv' := [(4, .int (x4 + 1)), (0, .ref q), (1, .int x1), (2, .ref q_chimesOfFirst), (3, .int x3)]) hx hb dX2_firstWins_83 hl (k := 4) rfl rfl (by decide) rfl (fun ls hl => ?_)
  refine lv_goto (tgt := 52) hx hb dX2_firstWins_86 (by decide) ?_
  exact hr52 _ _ _ _ _ h hH (lv_sub hl [1, 2, 3, 4, 0] rfl)
set_option maxRecDepth 100000 in
set_option maxHeartbeats 4000000 in
theorem tX2_firstWins_b52 {p : Program} {l : Launch} {e : Env} {s : State} {m : MethodId} {args : Array Value} {below : List Frame} {meth : Method} {c : Code} {A : Nat → Prop} {dC : Nat → ClassId} {dI : Nat → Nat → Nat} {cI : ClassId} {q q_chimesOfFirst q_chimesOfSecond q_lasts : Nat} {m_words : Int32} {m_saidAtFirst : Int32} {m_asked : Int32} {m_longest : Int32} {m_shortest : Int32} {m_chimesOfFirst : Nat → Int32} {m_chimesOfSecond : Nat → Int32} {x1 : Int32} {x3 : Int32} (C0 : gm_C p s m args meth c (dC, dI) [(cI, .int)] A gm_T RX2 cX2_firstWins 5 (some .boolean) wsX2_firstWins) {N : Nat} {out : Int32 × (Nat → Int32)} {r9 : (Nat → Int32) → Int32 → Option (Int32 × (Nat → Int32))} (hr9 : ∀ (m_lasts : Nat → Int32) (x1 : Int32) (H : Heap) (locs : List Loc) (ls : Array Slot), r9 m_lasts x1 = some out → gm_H (dC, dI) A s (wX2_firstWins cI q q_chimesOfFirst q_chimesOfSecond q_lasts m_words m_saidAtFirst m_asked m_longest m_shortest m_chimesOfFirst m_chimesOfSecond m_lasts) H locs → lv_has ls 5 [(0, .ref q), (1, .int x1)] → W p l e rX2_firstWins s m args below meth c H locs 0 0 (MQ below (gm_Q (dC, dI) [(cI, .int)] A (some (.int out.1)) (wX2_firstWins cI q q_chimesOfFirst q_chimesOfSecond q_lasts m_words m_saidAtFirst m_asked m_longest m_shortest m_chimesOfFirst m_chimesOfSecond out.2)) args s 0 0 A) (F0 m 9 ls []))  : ∀ (n : Nat), ∀ (m_lasts : Nat → Int32) (x4 : Int32) (H : Heap) (locs : List Loc) (ls : Array Slot), (gm_fix (fX2_firstWins_b52_body N r9 m_words m_saidAtFirst m_asked m_chimesOfFirst m_chimesOfSecond x1 x3) (fun _ _ => none) n) m_lasts x4 = some out → gm_H (dC, dI) A s (wX2_firstWins cI q q_chimesOfFirst q_chimesOfSecond q_lasts m_words m_saidAtFirst m_asked m_longest m_shortest m_chimesOfFirst m_chimesOfSecond m_lasts) H locs → lv_has ls 5 [(0, .ref q), (1, .int x1), (2, .ref q_chimesOfFirst), (3, .int x3), (4, .int x4)] → W p l e rX2_firstWins s m args below meth c H locs 0 0 (MQ below (gm_Q (dC, dI) [(cI, .int)] A (some (.int out.1)) (wX2_firstWins cI q q_chimesOfFirst q_chimesOfSecond q_lasts m_words m_saidAtFirst m_asked m_longest m_shortest m_chimesOfFirst m_chimesOfSecond out.2)) args s 0 0 A) (F0 m 52 ls []) := by
  obtain ⟨hx, hb, hml, hr, hown, hts, hA, hK, hX, hlocks⟩ := id C0
  intro n
  induction n with
  | zero =>
    intro m_lasts x4 H locs ls h hH hl
    cases h
  | succ n hr52 =>
    intro m_lasts x4 H locs ls h hH hl
    rw [gm_fix_s] at h
    unfold fX2_firstWins_b52_body at h
    refine lv_iload hx hb dX2_firstWins_52 (lv_at hl 4 rfl) ?_
    refine lv_aload_n hx hb dX2_firstWins_54 rfl (lv_at hl 0 rfl) ?_
    refine gm_get (ci := 2) C0 hH inX2_firstWins_X2 0 3 1 rfl rfl (by decide) rfl rfl dX2_firstWins_55 ?_
    refine lv_icmp_ge (tgt := 89) hx hb dX2_firstWins_58 (by decide) (fun hc9 => ?_) (fun hc9 => ?_)
    · replace h := gm_pos hc9 h
      exact tX2_firstWins_b89 C0 hr9 h hH (lv_sub hl [0, 1] rfl)
    · replace h := gm_neg hc9 h
      refine lv_aload_n hx hb dX2_firstWins_61 rfl (lv_at hl 2 rfl) ?_
      refine lv_iload hx hb dX2_firstWins_62 (lv_at hl 4 rfl) ?_
      obtain ⟨hi10, h⟩ := gm_chk_e h
      refine gm_iald C0 hH hi10 1 0 rfl rfl dX2_firstWins_64 ?_
      refine lv_iload_n hx hb dX2_firstWins_65 rfl (lv_at hl 3 rfl) ?_
      refine lv_iand hx hb dX2_firstWins_66 ?_
      refine lv_if_eq (tgt := 83) hx hb dX2_firstWins_67 (by decide) (fun hc11 => ?_) (fun hc11 => ?_)
      · replace h := gm_pos hc11 h
        exact tX2_firstWins_b83 C0 hr9 hr52 h hH (lv_sub hl [0, 1, 2, 3, 4] rfl)
      · replace h := gm_neg hc11 h
        refine lv_aload_n hx hb dX2_firstWins_70 rfl (lv_at hl 0 rfl) ?_
        refine gm_get (ci := 2) C0 hH inX2_firstWins_X2 0 2 3 rfl rfl (by decide) rfl rfl dX2_firstWins_71 ?_
        refine lv_iload_n hx hb dX2_firstWins_74 rfl (lv_at hl 1 rfl) ?_
        refine lv_dup2_11 hx hb dX2_firstWins_75 rfl rfl ?_
        obtain ⟨hi12, h⟩ := gm_chk_e h
        refine gm_iald C0 hH hi12 3 0 rfl rfl dX2_firstWins_76 ?_
        refine lv_iconst (v := 1) hx hb dX2_firstWins_77 (by decide) ?_
        refine lv_iload hx hb dX2_firstWins_78 (lv_at hl 4 rfl) ?_
        refine lv_ishl hx hb dX2_firstWins_80 ?_
        refine lv_ior hx hb dX2_firstWins_81 ?_
        obtain ⟨hi13, h⟩ := gm_chk_e h
        refine gm_iast C0 hH hi13 3 0 rfl rfl dX2_firstWins_82 (fun H locs hH => ?_)
        have hH : gm_H (dC, dI) A s (wX2_firstWins cI q q_chimesOfFirst q_chimesOfSecond q_lasts m_words m_saidAtFirst m_asked m_longest m_shortest m_chimesOfFirst m_chimesOfSecond (upd m_lasts (Int32.toNatClampNeg x1) (((m_lasts (Int32.toNatClampNeg x1)) ||| ((1 : Int32) <<< (x4 &&& 31)))))) H locs := hH
        exact tX2_firstWins_b83 C0 hr9 hr52 h hH (lv_sub hl [0, 1, 2, 3, 4] rfl)
set_option maxRecDepth 100000 in
set_option maxHeartbeats 4000000 in
theorem tX2_firstWins_b83x {p : Program} {l : Launch} {e : Env} {s : State} {m : MethodId} {args : Array Value} {below : List Frame} {meth : Method} {c : Code} {A : Nat → Prop} {dC : Nat → ClassId} {dI : Nat → Nat → Nat} {cI : ClassId} {q q_chimesOfFirst q_chimesOfSecond q_lasts : Nat} {m_words : Int32} {m_saidAtFirst : Int32} {m_asked : Int32} {m_longest : Int32} {m_shortest : Int32} {m_chimesOfFirst : Nat → Int32} {m_chimesOfSecond : Nat → Int32} {m_lasts : Nat → Int32} {x1 : Int32} {x3 : Int32} {x4 : Int32} (C0 : gm_C p s m args meth c (dC, dI) [(cI, .int)] A gm_T RX2 cX2_firstWins 5 (some .boolean) wsX2_firstWins) {N : Nat} {out : Int32 × (Nat → Int32)} {r9 : (Nat → Int32) → Int32 → Option (Int32 × (Nat → Int32))} (hr9 : ∀ (m_lasts : Nat → Int32) (x1 : Int32) (H : Heap) (locs : List Loc) (ls : Array Slot), r9 m_lasts x1 = some out → gm_H (dC, dI) A s (wX2_firstWins cI q q_chimesOfFirst q_chimesOfSecond q_lasts m_words m_saidAtFirst m_asked m_longest m_shortest m_chimesOfFirst m_chimesOfSecond m_lasts) H locs → lv_has ls 5 [(0, .ref q), (1, .int x1)] → W p l e rX2_firstWins s m args below meth c H locs 0 0 (MQ below (gm_Q (dC, dI) [(cI, .int)] A (some (.int out.1)) (wX2_firstWins cI q q_chimesOfFirst q_chimesOfSecond q_lasts m_words m_saidAtFirst m_asked m_longest m_shortest m_chimesOfFirst m_chimesOfSecond out.2)) args s 0 0 A) (F0 m 9 ls [])) {r52 : (Nat → Int32) → Int32 → Option (Int32 × (Nat → Int32))} (hr52 : ∀ (m_lasts : Nat → Int32) (x4 : Int32) (H : Heap) (locs : List Loc) (ls : Array Slot), r52 m_lasts x4 = some out → gm_H (dC, dI) A s (wX2_firstWins cI q q_chimesOfFirst q_chimesOfSecond q_lasts m_words m_saidAtFirst m_asked m_longest m_shortest m_chimesOfFirst m_chimesOfSecond m_lasts) H locs → lv_has ls 5 [(0, .ref q), (1, .int x1), (2, .ref q_chimesOfSecond), (3, .int x3), (4, .int x4)] → W p l e rX2_firstWins s m args below meth c H locs 0 0 (MQ below (gm_Q (dC, dI) [(cI, .int)] A (some (.int out.1)) (wX2_firstWins cI q q_chimesOfFirst q_chimesOfSecond q_lasts m_words m_saidAtFirst m_asked m_longest m_shortest m_chimesOfFirst m_chimesOfSecond out.2)) args s 0 0 A) (F0 m 52 ls []))   {H : Heap} {locs : List Loc} {ls : Array Slot} (h : fX2_firstWins_b83x N r9 r52 m_words m_saidAtFirst m_asked m_chimesOfFirst m_chimesOfSecond m_lasts x1 x3 x4 = some out) (hH : gm_H (dC, dI) A s (wX2_firstWins cI q q_chimesOfFirst q_chimesOfSecond q_lasts m_words m_saidAtFirst m_asked m_longest m_shortest m_chimesOfFirst m_chimesOfSecond m_lasts) H locs) (hl : lv_has ls 5 [(0, .ref q), (1, .int x1), (2, .ref q_chimesOfSecond), (3, .int x3), (4, .int x4)]) : W p l e rX2_firstWins s m args below meth c H locs 0 0 (MQ below (gm_Q (dC, dI) [(cI, .int)] A (some (.int out.1)) (wX2_firstWins cI q q_chimesOfFirst q_chimesOfSecond q_lasts m_words m_saidAtFirst m_asked m_longest m_shortest m_chimesOfFirst m_chimesOfSecond out.2)) args s 0 0 A) (F0 m 83 ls []) := by
  obtain ⟨hx, hb, hml, hr, hown, hts, hA, hK, hX, hlocks⟩ := id C0
  unfold fX2_firstWins_b83x at h
  refine lv_iinc (v := (x4 + 1)) (lv' := [(4, .int (x4 + 1)), (0, .ref q), (1, .int x1), (2, .ref q_chimesOfSecond), (3, .int x3)]) hx hb dX2_firstWins_83 hl (k := 4) rfl rfl (by decide) rfl (fun ls hl => ?_)
  refine lv_goto (tgt := 52) hx hb dX2_firstWins_86 (by decide) ?_
  exact hr52 _ _ _ _ _ h hH (lv_sub hl [1, 2, 3, 4, 0] rfl)
set_option maxRecDepth 100000 in
set_option maxHeartbeats 4000000 in
theorem tX2_firstWins_b52x {p : Program} {l : Launch} {e : Env} {s : State} {m : MethodId} {args : Array Value} {below : List Frame} {meth : Method} {c : Code} {A : Nat → Prop} {dC : Nat → ClassId} {dI : Nat → Nat → Nat} {cI : ClassId} {q q_chimesOfFirst q_chimesOfSecond q_lasts : Nat} {m_words : Int32} {m_saidAtFirst : Int32} {m_asked : Int32} {m_longest : Int32} {m_shortest : Int32} {m_chimesOfFirst : Nat → Int32} {m_chimesOfSecond : Nat → Int32} {x1 : Int32} {x3 : Int32} (C0 : gm_C p s m args meth c (dC, dI) [(cI, .int)] A gm_T RX2 cX2_firstWins 5 (some .boolean) wsX2_firstWins) {N : Nat} {out : Int32 × (Nat → Int32)} {r9 : (Nat → Int32) → Int32 → Option (Int32 × (Nat → Int32))} (hr9 : ∀ (m_lasts : Nat → Int32) (x1 : Int32) (H : Heap) (locs : List Loc) (ls : Array Slot), r9 m_lasts x1 = some out → gm_H (dC, dI) A s (wX2_firstWins cI q q_chimesOfFirst q_chimesOfSecond q_lasts m_words m_saidAtFirst m_asked m_longest m_shortest m_chimesOfFirst m_chimesOfSecond m_lasts) H locs → lv_has ls 5 [(0, .ref q), (1, .int x1)] → W p l e rX2_firstWins s m args below meth c H locs 0 0 (MQ below (gm_Q (dC, dI) [(cI, .int)] A (some (.int out.1)) (wX2_firstWins cI q q_chimesOfFirst q_chimesOfSecond q_lasts m_words m_saidAtFirst m_asked m_longest m_shortest m_chimesOfFirst m_chimesOfSecond out.2)) args s 0 0 A) (F0 m 9 ls []))  : ∀ (n : Nat), ∀ (m_lasts : Nat → Int32) (x4 : Int32) (H : Heap) (locs : List Loc) (ls : Array Slot), (gm_fix (fX2_firstWins_b52x_body N r9 m_words m_saidAtFirst m_asked m_chimesOfFirst m_chimesOfSecond x1 x3) (fun _ _ => none) n) m_lasts x4 = some out → gm_H (dC, dI) A s (wX2_firstWins cI q q_chimesOfFirst q_chimesOfSecond q_lasts m_words m_saidAtFirst m_asked m_longest m_shortest m_chimesOfFirst m_chimesOfSecond m_lasts) H locs → lv_has ls 5 [(0, .ref q), (1, .int x1), (2, .ref q_chimesOfSecond), (3, .int x3), (4, .int x4)] → W p l e rX2_firstWins s m args below meth c H locs 0 0 (MQ below (gm_Q (dC, dI) [(cI, .int)] A (some (.int out.1)) (wX2_firstWins cI q q_chimesOfFirst q_chimesOfSecond q_lasts m_words m_saidAtFirst m_asked m_longest m_shortest m_chimesOfFirst m_chimesOfSecond out.2)) args s 0 0 A) (F0 m 52 ls []) := by
  obtain ⟨hx, hb, hml, hr, hown, hts, hA, hK, hX, hlocks⟩ := id C0
  intro n
  induction n with
  | zero =>
    intro m_lasts x4 H locs ls h hH hl
    cases h
  | succ n hr52 =>
    intro m_lasts x4 H locs ls h hH hl
    rw [gm_fix_s] at h
    unfold fX2_firstWins_b52x_body at h
    refine lv_iload hx hb dX2_firstWins_52 (lv_at hl 4 rfl) ?_
    refine lv_aload_n hx hb dX2_firstWins_54 rfl (lv_at hl 0 rfl) ?_
    refine gm_get (ci := 2) C0 hH inX2_firstWins_X2 0 3 1 rfl rfl (by decide) rfl rfl dX2_firstWins_55 ?_
    refine lv_icmp_ge (tgt := 89) hx hb dX2_firstWins_58 (by decide) (fun hc16 => ?_) (fun hc16 => ?_)
    · replace h := gm_pos hc16 h
      exact tX2_firstWins_b89 C0 hr9 h hH (lv_sub hl [0, 1] rfl)
    · replace h := gm_neg hc16 h
      refine lv_aload_n hx hb dX2_firstWins_61 rfl (lv_at hl 2 rfl) ?_
      refine lv_iload hx hb dX2_firstWins_62 (lv_at hl 4 rfl) ?_
      obtain ⟨hi17, h⟩ := gm_chk_e h
      refine gm_iald C0 hH hi17 2 0 rfl rfl dX2_firstWins_64 ?_
      refine lv_iload_n hx hb dX2_firstWins_65 rfl (lv_at hl 3 rfl) ?_
      refine lv_iand hx hb dX2_firstWins_66 ?_
      refine lv_if_eq (tgt := 83) hx hb dX2_firstWins_67 (by decide) (fun hc18 => ?_) (fun hc18 => ?_)
      · replace h := gm_pos hc18 h
        exact tX2_firstWins_b83x C0 hr9 hr52 h hH (lv_sub hl [0, 1, 2, 3, 4] rfl)
      · replace h := gm_neg hc18 h
        refine lv_aload_n hx hb dX2_firstWins_70 rfl (lv_at hl 0 rfl) ?_
        refine gm_get (ci := 2) C0 hH inX2_firstWins_X2 0 2 3 rfl rfl (by decide) rfl rfl dX2_firstWins_71 ?_
        refine lv_iload_n hx hb dX2_firstWins_74 rfl (lv_at hl 1 rfl) ?_
        refine lv_dup2_11 hx hb dX2_firstWins_75 rfl rfl ?_
        obtain ⟨hi19, h⟩ := gm_chk_e h
        refine gm_iald C0 hH hi19 3 0 rfl rfl dX2_firstWins_76 ?_
        refine lv_iconst (v := 1) hx hb dX2_firstWins_77 (by decide) ?_
        refine lv_iload hx hb dX2_firstWins_78 (lv_at hl 4 rfl) ?_
        refine lv_ishl hx hb dX2_firstWins_80 ?_
        refine lv_ior hx hb dX2_firstWins_81 ?_
        obtain ⟨hi20, h⟩ := gm_chk_e h
        refine gm_iast C0 hH hi20 3 0 rfl rfl dX2_firstWins_82 (fun H locs hH => ?_)
        have hH : gm_H (dC, dI) A s (wX2_firstWins cI q q_chimesOfFirst q_chimesOfSecond q_lasts m_words m_saidAtFirst m_asked m_longest m_shortest m_chimesOfFirst m_chimesOfSecond (upd m_lasts (Int32.toNatClampNeg x1) (((m_lasts (Int32.toNatClampNeg x1)) ||| ((1 : Int32) <<< (x4 &&& 31)))))) H locs := hH
        exact tX2_firstWins_b83x C0 hr9 hr52 h hH (lv_sub hl [0, 1, 2, 3, 4] rfl)
set_option maxRecDepth 100000 in
set_option maxHeartbeats 4000000 in
theorem tX2_firstWins_b9 {p : Program} {l : Launch} {e : Env} {s : State} {m : MethodId} {args : Array Value} {below : List Frame} {meth : Method} {c : Code} {A : Nat → Prop} {dC : Nat → ClassId} {dI : Nat → Nat → Nat} {cI : ClassId} {q q_chimesOfFirst q_chimesOfSecond q_lasts : Nat} {m_words : Int32} {m_saidAtFirst : Int32} {m_asked : Int32} {m_longest : Int32} {m_shortest : Int32} {m_chimesOfFirst : Nat → Int32} {m_chimesOfSecond : Nat → Int32} (C0 : gm_C p s m args meth c (dC, dI) [(cI, .int)] A gm_T RX2 cX2_firstWins 5 (some .boolean) wsX2_firstWins) {N : Nat} {out : Int32 × (Nat → Int32)}   : ∀ (n : Nat), ∀ (m_lasts : Nat → Int32) (x1 : Int32) (H : Heap) (locs : List Loc) (ls : Array Slot), (gm_fix (fX2_firstWins_b9_body N  m_words m_saidAtFirst m_asked m_chimesOfFirst m_chimesOfSecond) (fun _ _ => none) n) m_lasts x1 = some out → gm_H (dC, dI) A s (wX2_firstWins cI q q_chimesOfFirst q_chimesOfSecond q_lasts m_words m_saidAtFirst m_asked m_longest m_shortest m_chimesOfFirst m_chimesOfSecond m_lasts) H locs → lv_has ls 5 [(0, .ref q), (1, .int x1)] → W p l e rX2_firstWins s m args below meth c H locs 0 0 (MQ below (gm_Q (dC, dI) [(cI, .int)] A (some (.int out.1)) (wX2_firstWins cI q q_chimesOfFirst q_chimesOfSecond q_lasts m_words m_saidAtFirst m_asked m_longest m_shortest m_chimesOfFirst m_chimesOfSecond out.2)) args s 0 0 A) (F0 m 9 ls []) := by
  obtain ⟨hx, hb, hml, hr, hown, hts, hA, hK, hX, hlocks⟩ := id C0
  intro n
  induction n with
  | zero =>
    intro m_lasts x1 H locs ls h hH hl
    cases h
  | succ n hr9 =>
    intro m_lasts x1 H locs ls h hH hl
    rw [gm_fix_s] at h
    unfold fX2_firstWins_b9_body at h
    refine lv_iload_n hx hb dX2_firstWins_9 rfl (lv_at hl 1 rfl) ?_
    refine lv_aload_n hx hb dX2_firstWins_10 rfl (lv_at hl 0 rfl) ?_
    refine gm_get (ci := 2) C0 hH inX2_firstWins_X2 0 4 2 rfl rfl (by decide) rfl rfl dX2_firstWins_11 ?_
    refine lv_icmp_lt (tgt := 95) hx hb dX2_firstWins_14 (by decide) (fun hc2 => ?_) (fun hc2 => ?_)
    · replace h := gm_pos hc2 h
      exact tX2_firstWins_b95 C0  h hH (lv_sub hl [0] rfl)
    · replace h := gm_neg hc2 h
      refine lv_iload_n hx hb dX2_firstWins_17 rfl (lv_at hl 1 rfl) ?_
      refine lv_aload_n hx hb dX2_firstWins_18 rfl (lv_at hl 0 rfl) ?_
      refine gm_get (ci := 2) C0 hH inX2_firstWins_X2 0 4 2 rfl rfl (by decide) rfl rfl dX2_firstWins_19 ?_
      refine lv_iand hx hb dX2_firstWins_22 ?_
      refine lv_aload_n hx hb dX2_firstWins_23 rfl (lv_at hl 0 rfl) ?_
      refine gm_get (ci := 2) C0 hH inX2_firstWins_X2 0 4 2 rfl rfl (by decide) rfl rfl dX2_firstWins_24 ?_
      refine lv_icmp_ne (tgt := 89) hx hb dX2_firstWins_27 (by decide) (fun hc5 => ?_) (fun hc5 => ?_)
      · replace h := gm_neg hc5 h
        exact tX2_firstWins_b89 C0 hr9 h hH (lv_sub hl [0, 1] rfl)
      · replace h := gm_pos hc5 h
        refine lv_aload_n hx hb dX2_firstWins_30 rfl (lv_at hl 0 rfl) ?_
        refine lv_iload_n hx hb dX2_firstWins_31 rfl (lv_at hl 1 rfl) ?_
        obtain ⟨o6, ho6, h⟩ := gm_bind_e h
        refine gm_callV (As := [.int x1]) (rest := []) (n := 1) (ci := 2) (q0 := 0) C0 hH (mX2_chimesOfNext l dC dI  q q_chimesOfFirst q_chimesOfSecond q_lasts m_words m_saidAtFirst m_asked m_longest m_shortest x1   ho6) gX2_firstWins_X2_chimesOfNext rfl (by decide +kernel) ⟨rfl, rfl, Nat.le_of_ble_eq_true rfl, Nat.le_of_ble_eq_true rfl⟩ gm_T_ok (fun _ => trivial) [0] rfl rfl rfl [] rfl rfl rfl rfl hl.1 rfl (Nat.le_of_ble_eq_true rfl) dX2_firstWins_32 ⟨Nat.zero_le _, Nat.zero_le _⟩ (fun H locs hH => ?_)
        have hH : gm_H (dC, dI) A s (wX2_firstWins cI q q_chimesOfFirst q_chimesOfSecond q_lasts m_words m_saidAtFirst m_asked m_longest m_shortest m_chimesOfFirst m_chimesOfSecond m_lasts) H locs := hH
        by_cases hs6 : o6 = 0
        · replace h := gm_pos hs6 h
          refine W.eq (g2 := F0 m 35 ls [.ref q_chimesOfFirst]) (by simp only [if_pos hs6]; rfl) ?_
          refine lv_astore_n (lv' := [(2, .ref q_chimesOfFirst), (0, .ref q), (1, .int x1)]) hx hb dX2_firstWins_35 rfl hl (by decide) rfl (fun ls hl => ?_)
          refine lv_aload_n hx hb dX2_firstWins_36 rfl (lv_at hl 1 rfl) ?_
          refine lv_iload_n hx hb dX2_firstWins_37 rfl (lv_at hl 2 rfl) ?_
          obtain ⟨o7, ho7, h⟩ := gm_bind_e h
          refine gm_callV (As := [.int x1]) (rest := []) (n := 1) (ci := 2) (q0 := 0) C0 hH (mX2_traps l dC dI cI q q_lasts q_chimesOfFirst q_chimesOfSecond m_words m_saidAtFirst m_asked m_longest m_shortest m_lasts x1   ho7) gX2_firstWins_X2_traps rfl (by decide +kernel) ⟨rfl, rfl, Nat.le_of_ble_eq_true rfl, Nat.le_of_ble_eq_true rfl⟩ gm_T_ok (fun _ => trivial) [0, 3] rfl rfl rfl [0] rfl rfl rfl rfl hl.1 rfl (Nat.le_of_ble_eq_true rfl) dX2_firstWins_38 ⟨Nat.zero_le _, Nat.zero_le _⟩ (fun H locs hH => ?_)
          have hH : gm_H (dC, dI) A s (wX2_firstWins cI q q_chimesOfFirst q_chimesOfSecond q_lasts m_words m_saidAtFirst m_asked m_longest m_shortest m_chimesOfFirst m_chimesOfSecond m_lasts) H locs := hH
          refine lv_istore_n (lv' := [(3, .int o7), (2, .ref q_chimesOfFirst), (0, .ref q), (1, .int x1)]) hx hb dX2_firstWins_41 rfl hl (by decide) rfl (fun ls hl => ?_)
          refine lv_aload_n hx hb dX2_firstWins_42 rfl (lv_at hl 2 rfl) ?_
          refine gm_get (ci := 2) C0 hH inX2_firstWins_X2 0 2 3 rfl rfl (by decide) rfl rfl dX2_firstWins_43 ?_
          refine lv_iload_n hx hb dX2_firstWins_46 rfl (lv_at hl 3 rfl) ?_
          refine lv_iconst (v := 0) hx hb dX2_firstWins_47 (by decide) ?_
          obtain ⟨hi8, h⟩ := gm_chk_e h
          refine gm_iast C0 hH hi8 3 0 rfl rfl dX2_firstWins_48 (fun H locs hH => ?_)
          have hH : gm_H (dC, dI) A s (wX2_firstWins cI q q_chimesOfFirst q_chimesOfSecond q_lasts m_words m_saidAtFirst m_asked m_longest m_shortest m_chimesOfFirst m_chimesOfSecond (upd m_lasts (Int32.toNatClampNeg x1) 0)) H locs := hH
          refine lv_iconst (v := 0) hx hb dX2_firstWins_49 (by decide) ?_
          refine lv_istore (lv' := [(4, .int 0), (3, .int o7), (2, .ref q_chimesOfFirst), (0, .ref q), (1, .int x1)]) hx hb dX2_firstWins_50 hl (by decide) rfl (fun ls hl => ?_)
          unfold fX2_firstWins_b52 at h
          exact tX2_firstWins_b52 C0 hr9 _ _ _ _ _ _ h hH (lv_sub hl [3, 4, 2, 1, 0] rfl)
        · replace h := gm_neg hs6 h
          refine W.eq (g2 := F0 m 35 ls [.ref q_chimesOfSecond]) (by simp only [if_neg hs6]; rfl) ?_
          refine lv_astore_n (lv' := [(2, .ref q_chimesOfSecond), (0, .ref q), (1, .int x1)]) hx hb dX2_firstWins_35 rfl hl (by decide) rfl (fun ls hl => ?_)
          refine lv_aload_n hx hb dX2_firstWins_36 rfl (lv_at hl 1 rfl) ?_
          refine lv_iload_n hx hb dX2_firstWins_37 rfl (lv_at hl 2 rfl) ?_
          obtain ⟨o14, ho14, h⟩ := gm_bind_e h
          refine gm_callV (As := [.int x1]) (rest := []) (n := 1) (ci := 2) (q0 := 0) C0 hH (mX2_traps l dC dI cI q q_lasts q_chimesOfFirst q_chimesOfSecond m_words m_saidAtFirst m_asked m_longest m_shortest m_lasts x1   ho14) gX2_firstWins_X2_traps rfl (by decide +kernel) ⟨rfl, rfl, Nat.le_of_ble_eq_true rfl, Nat.le_of_ble_eq_true rfl⟩ gm_T_ok (fun _ => trivial) [0, 3] rfl rfl rfl [0] rfl rfl rfl rfl hl.1 rfl (Nat.le_of_ble_eq_true rfl) dX2_firstWins_38 ⟨Nat.zero_le _, Nat.zero_le _⟩ (fun H locs hH => ?_)
          have hH : gm_H (dC, dI) A s (wX2_firstWins cI q q_chimesOfFirst q_chimesOfSecond q_lasts m_words m_saidAtFirst m_asked m_longest m_shortest m_chimesOfFirst m_chimesOfSecond m_lasts) H locs := hH
          refine lv_istore_n (lv' := [(3, .int o14), (2, .ref q_chimesOfSecond), (0, .ref q), (1, .int x1)]) hx hb dX2_firstWins_41 rfl hl (by decide) rfl (fun ls hl => ?_)
          refine lv_aload_n hx hb dX2_firstWins_42 rfl (lv_at hl 2 rfl) ?_
          refine gm_get (ci := 2) C0 hH inX2_firstWins_X2 0 2 3 rfl rfl (by decide) rfl rfl dX2_firstWins_43 ?_
          refine lv_iload_n hx hb dX2_firstWins_46 rfl (lv_at hl 3 rfl) ?_
          refine lv_iconst (v := 0) hx hb dX2_firstWins_47 (by decide) ?_
          obtain ⟨hi15, h⟩ := gm_chk_e h
          refine gm_iast C0 hH hi15 3 0 rfl rfl dX2_firstWins_48 (fun H locs hH => ?_)
          have hH : gm_H (dC, dI) A s (wX2_firstWins cI q q_chimesOfFirst q_chimesOfSecond q_lasts m_words m_saidAtFirst m_asked m_longest m_shortest m_chimesOfFirst m_chimesOfSecond (upd m_lasts (Int32.toNatClampNeg x1) 0)) H locs := hH
          refine lv_iconst (v := 0) hx hb dX2_firstWins_49 (by decide) ?_
          refine lv_istore (lv' := [(4, .int 0), (3, .int o14), (2, .ref q_chimesOfSecond), (0, .ref q), (1, .int x1)]) hx hb dX2_firstWins_50 hl (by decide) rfl (fun ls hl => ?_)
          unfold fX2_firstWins_b52x at h
          exact tX2_firstWins_b52x C0 hr9 _ _ _ _ _ _ h hH (lv_sub hl [3, 4, 2, 1, 0] rfl)
set_option maxRecDepth 100000 in
set_option maxHeartbeats 4000000 in
theorem mX2_firstWins (l : Launch) (dC : Nat → ClassId) (dI : Nat → Nat → Nat) (cI : ClassId) (q q_chimesOfFirst q_chimesOfSecond q_lasts : Nat) (m_words : Int32) (m_saidAtFirst : Int32) (m_asked : Int32) (m_longest : Int32) (m_shortest : Int32) (m_chimesOfFirst : Nat → Int32) (m_chimesOfSecond : Nat → Int32) (m_lasts : Nat → Int32)   {N : Nat} {out : Int32 × (Nat → Int32)} (h : fX2_firstWins N m_words m_saidAtFirst m_asked m_chimesOfFirst m_chimesOfSecond m_lasts = some out) : gm_Met l yX2_firstWins wsX2_firstWins rX2_firstWins (dC, dI) [(cI, .int)] gm_T [.ref q] (wX2_firstWins cI q q_chimesOfFirst q_chimesOfSecond q_lasts m_words m_saidAtFirst m_asked m_longest m_shortest m_chimesOfFirst m_chimesOfSecond m_lasts) (some (.int out.1)) (wX2_firstWins cI q q_chimesOfFirst q_chimesOfSecond q_lasts m_words m_saidAtFirst m_asked m_longest m_shortest m_chimesOfFirst m_chimesOfSecond out.2) := by
  refine gm_ofW (cc := cX2_firstWins) (maxL := 5) (ret := (some .boolean)) (by decide +kernel) rfl (Nat.le_of_ble_eq_true rfl) ?_
  intro p e s m below meth c A C0 hH ls hl
  generalize ([.ref q] : List Value).toArray = args at C0 ⊢
  have hl : lv_has ls 5 [(0, .ref q)] := hl
  generalize s.heap = H at hH ⊢
  generalize ([] : List Loc) = locs at hH ⊢
  obtain ⟨hx, hb, hml, hr, hown, hts, hA, hK, hX, hlocks⟩ := id C0
  unfold fX2_firstWins at h
  refine lv_iconst (v := 1) hx hb dX2_firstWins_0 (by decide) ?_
  refine lv_aload_n hx hb dX2_firstWins_1 rfl (lv_at hl 0 rfl) ?_
  refine gm_get (ci := 2) C0 hH inX2_firstWins_X2 0 3 1 rfl rfl (by decide) rfl rfl dX2_firstWins_2 ?_
  refine lv_ishl hx hb dX2_firstWins_5 ?_
  refine lv_iconst (v := 1) hx hb dX2_firstWins_6 (by decide) ?_
  refine lv_isub hx hb dX2_firstWins_7 ?_
  refine lv_topi (fun v1 ev1 => ?_)
  replace h := gm_let_e ev1 h
  refine lv_istore_n (lv' := [(1, .int v1), (0, .ref q)]) hx hb dX2_firstWins_8 rfl hl (by decide) rfl (fun ls hl => ?_)
  unfold fX2_firstWins_b9 at h
  exact tX2_firstWins_b9 C0  _ _ _ _ _ _ h hH (lv_sub hl [1, 0] rfl)
