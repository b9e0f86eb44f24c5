/-! X10_choosePairs -/
abbrev wX10_choosePairs (cI : ClassId) (q q_sayableByPair q_chosenPairs q_now q_draft q_images q_kinds q_text q_duel q_cover q_clashes q_tally : Nat) (m_imagesKept : Int32) (m_bads : Int32) (m_nos : Int32) (m_fulls : Int32) (m_above : Int64) (m_below : Int64) (m_sayableByPair : Nat → Int32) (m_chosenPairs : Nat → Int32) : va_W := [(q, .inr (10, [.ref q_now, .ref q_draft, .ref q_images, .int m_imagesKept, .ref q_kinds, .ref q_text, .ref q_duel, .ref q_cover, .int m_bads, .int m_nos, .int m_fulls, .long m_above, .long m_below, .ref q_clashes, .ref q_tally, .ref q_sayableByPair, .ref q_chosenPairs])), (q_sayableByPair, .inl (cI, 28, .inl m_sayableByPair)), (q_chosenPairs, .inl (cI, 2, .inl m_chosenPairs))]
abbrev rX10_choosePairs : Room := { frames := 0, cells := 0, slots := 0, locals := 0 }
def fX10_choosePairs_b128 (N : Nat) (r54 : Int32 → Option (Int32 × (Nat → Int32))) (m_sayableByPair : Nat → Int32) (m_chosenPairs : Nat → Int32) (x2 : Int32) (x3 : Int32) : Option (Int32 × (Nat → Int32)) := (r54 ((x3 + 1)))
def fX10_choosePairs_b97 (N : Nat)  (m_chosenPairs : Nat → Int32) (x3 : Int32) (x4 : Int32) : Option (Int32 × (Nat → Int32)) := gm_chk x3 28 (gm_chk 0 2 (gm_chk x4 28 (gm_chk 1 2 (some (2, upd (upd m_chosenPairs (Int32.toNatClampNeg 0) ((gm_pairs (Int32.toNatClampNeg x3)))) (Int32.toNatClampNeg 1) ((gm_pairs (Int32.toNatClampNeg x4))))))))
def fX10_choosePairs_b67_body (N : Nat) (r54 : Int32 → Option (Int32 × (Nat → Int32))) (m_sayableByPair : Nat → Int32) (m_chosenPairs : Nat → Int32) (x2 : Int32) (x3 : Int32) (r67 : Int32 → Option (Int32 × (Nat → Int32))) (x4 : Int32) : Option (Int32 × (Nat → Int32)) := (if 28 ≤ x4 then (fX10_choosePairs_b128 N r54 m_sayableByPair m_chosenPairs x2 x3) else gm_chk x3 28 (gm_chk x4 28 ((if (x2 &&& (((m_sayableByPair (Int32.toNatClampNeg x3)) ||| (m_sayableByPair (Int32.toNatClampNeg x4))) ^^^ (-1))) = 0 then (fX10_choosePairs_b97 N  m_chosenPairs x3 x4) else (r67 ((x4 + 1)))))))
def fX10_choosePairs_b67 (N : Nat) (r54 : Int32 → Option (Int32 × (Nat → Int32))) (m_sayableByPair : Nat → Int32) (m_chosenPairs : Nat → Int32) (x2 : Int32) (x3 : Int32) (x4 : Int32) : Option (Int32 × (Nat → Int32)) := gm_fix (fX10_choosePairs_b67_body N r54 m_sayableByPair m_chosenPairs x2 x3) (fun _ => none) N x4
def fX10_choosePairs_b54_body (N : Nat)  (m_sayableByPair : Nat → Int32) (m_chosenPairs : Nat → Int32) (x2 : Int32) (r54 : Int32 → Option (Int32 × (Nat → Int32))) (x3 : Int32) : Option (Int32 × (Nat → Int32)) := (if 28 ≤ x3 then some ((-1), m_chosenPairs) else gm_let ((x3 + 1) : Int32) (fun (v4 : Int32) => (fX10_choosePairs_b67 N r54 m_sayableByPair m_chosenPairs x2 x3 v4)))
def fX10_choosePairs_b54 (N : Nat)  (m_sayableByPair : Nat → Int32) (m_chosenPairs : Nat → Int32) (x2 : Int32) (x3 : Int32) : Option (Int32 × (Nat → Int32)) := gm_fix (fX10_choosePairs_b54_body N  m_sayableByPair m_chosenPairs x2) (fun _ => none) N x3
def fX10_choosePairs_b52 (N : Nat)  (m_sayableByPair : Nat → Int32) (m_chosenPairs : Nat → Int32) (x2 : Int32) : Option (Int32 × (Nat → Int32)) := (fX10_choosePairs_b54 N  m_sayableByPair m_chosenPairs x2 0)
def fX10_choosePairs_b33 (N : Nat)  (m_chosenPairs : Nat → Int32) (x3 : Int32) : Option (Int32 × (Nat → Int32)) := gm_chk x3 28 (gm_chk 0 2 (some (1, upd m_chosenPairs (Int32.toNatClampNeg 0) ((gm_pairs (Int32.toNatClampNeg x3))))))
def fX10_choosePairs_b12_body (N : Nat)  (m_sayableByPair : Nat → Int32) (m_chosenPairs : Nat → Int32) (x2 : Int32) (r12 : Int32 → Option (Int32 × (Nat → Int32))) (x3 : Int32) : Option (Int32 × (Nat → Int32)) := (if 28 ≤ x3 then (fX10_choosePairs_b52 N  m_sayableByPair m_chosenPairs x2) else gm_chk x3 28 ((if (x2 &&& ((m_sayableByPair (Int32.toNatClampNeg x3)) ^^^ (-1))) = 0 then (fX10_choosePairs_b33 N  m_chosenPairs x3) else (r12 ((x3 + 1))))))
def fX10_choosePairs_b12 (N : Nat)  (m_sayableByPair : Nat → Int32) (m_chosenPairs : Nat → Int32) (x2 : Int32) (x3 : Int32) : Option (Int32 × (Nat → Int32)) := gm_fix (fX10_choosePairs_b12_body N  m_sayableByPair m_chosenPairs x2) (fun _ => none) N x3
def fX10_choosePairs (N : Nat) (m_sayableByPair : Nat → Int32) (m_chosenPairs : Nat → Int32) (x1 : Int32) (x2 : Int32) : Option (Int32 × (Nat → Int32)) := (if (x2 &&& (x1 ^^^ (-1))) = 0 then some (0, m_chosenPairs) else (fX10_choosePairs_b12 N  m_sayableByPair m_chosenPairs x2 0))
set_option maxRecDepth 20000 in
theorem inX10_choosePairs_X10 : ∀ w ∈ u_ws RX10 TX10 17, w ∈ wsX10_choosePairs := fun w h => by
  obtain ⟨k, hk, rfl⟩ := List.mem_map.mp h
  have hk2 := List.mem_range.mp hk
  exact List.mem_of_getElem? (i := 4 + k) (by rcases (show k = 0 ∨ k = 1 ∨ k = 2 ∨ k = 3 ∨ k = 4 ∨ k = 5 ∨ k = 6 ∨ k = 7 ∨ k = 8 ∨ k = 9 ∨ k = 10 ∨ k = 11 ∨ k = 12 ∨ k = 13 ∨ k = 14 ∨ k = 15 ∨ k = 16 by omega) with rfl | rfl | rfl | rfl | rfl | rfl | rfl | rfl | rfl | rfl | rfl | rfl | rfl | rfl | rfl | rfl | rfl <;> rfl)
set_option maxRecDepth 100000 in
set_option maxHeartbeats 4000000 in
theorem tX10_choosePairs_b128 {p : Program} {l : Launch} {e : Env} {s : State} {m : MethodId} {args : Array Value} {below : List Frame} {meth : Method} {c : Code} {A : Nat → Prop} {dC : Nat → ClassId} {dI : Nat → Nat → Nat} {cI : ClassId} {q q_sayableByPair q_chosenPairs q_now q_draft q_images q_kinds q_text q_duel q_cover q_clashes q_tally : Nat} {tP : Nat} {m_imagesKept : Int32} {m_bads : Int32} {m_nos : Int32} {m_fulls : Int32} {m_above : Int64} {m_below : Int64} {m_sayableByPair : Nat → Int32} {m_chosenPairs : Nat → Int32} {x2 : Int32} {x3 : Int32} (C0 : gm_C p s m args meth c (dC, dI) [(cI, .int)] A (gm_XP tP) RX10 cX10_choosePairs 5 (some .int) wsX10_choosePairs) {N : Nat} {out : Int32 × (Nat → Int32)} {r54 : Int32 → Option (Int32 × (Nat → Int32))} (hr54 : ∀ (x3 : Int32) (H : Heap) (locs : List Loc) (ls : Array Slot), r54 x3 = some out → gm_H (dC, dI) A s (wX10_choosePairs cI q q_sayableByPair q_chosenPairs q_now q_draft q_images q_kinds q_text q_duel q_cover q_clashes q_tally m_imagesKept m_bads m_nos m_fulls m_above m_below m_sayableByPair m_chosenPairs) H locs → lv_has ls 5 [(0, .ref q), (2, .int x2), (3, .int x3)] → W p l e rX10_choosePairs s m args below meth c H locs 0 0 (MQ below (gm_Q (dC, dI) [(cI, .int)] A (some (.int out.1)) (wX10_choosePairs cI q q_sayableByPair q_chosenPairs q_now q_draft q_images q_kinds q_text q_duel q_cover q_clashes q_tally m_imagesKept m_bads m_nos m_fulls m_above m_below m_sayableByPair out.2)) args s 0 0 A) (F0 m 54 ls []))   {H : Heap} {locs : List Loc} {ls : Array Slot} (h : fX10_choosePairs_b128 N r54 m_sayableByPair m_chosenPairs x2 x3 = some out) (hH : gm_H (dC, dI) A s (wX10_choosePairs cI q q_sayableByPair q_chosenPairs q_now q_draft q_images q_kinds q_text q_duel q_cover q_clashes q_tally m_imagesKept m_bads m_nos m_fulls m_above m_below m_sayableByPair m_chosenPairs) H locs) (hl : lv_has ls 5 [(0, .ref q), (2, .int x2), (3, .int x3)]) : W p l e rX10_choosePairs s m args below meth c H locs 0 0 (MQ below (gm_Q (dC, dI) [(cI, .int)] A (some (.int out.1)) (wX10_choosePairs cI q q_sayableByPair q_chosenPairs q_now q_draft q_images q_kinds q_text q_duel q_cover q_clashes q_tally m_imagesKept m_bads m_nos m_fulls m_above m_below m_sayableByPair out.2)) args s 0 0 A) (F0 m 128 ls []) := by
  obtain ⟨hx, hb, hml, hr, hown, hts, hA, hK, hX, hlocks⟩ := id C0
  unfold fX10_choosePairs_b128 at h
  refine lv_iinc (v := (x3 + 1)) (lv' := [(3, .int (x3 + 1)), (0, .ref q), (2, .int x2)]) hx hb dX10_choosePairs_128 hl (k := 2) rfl rfl (by decide) rfl (fun ls hl => ?_)
  refine lv_goto (tgt := 54) hx hb dX10_choosePairs_131 (by decide) ?_
  exact hr54 _ _ _ _ h hH (lv_sub hl [1, 2, 0] rfl)
set_option maxRecDepth 100000 in
set_option maxHeartbeats 4000000 in
theorem tX10_choosePairs_b97 {p : Program} {l : Launch} {e : Env} {s : State} {m : MethodId} {args : Array Value} {below : List Frame} {meth : Method} {c : Code} {A : Nat → Prop} {dC : Nat → ClassId} {dI : Nat → Nat → Nat} {cI : ClassId} {q q_sayableByPair q_chosenPairs q_now q_draft q_images q_kinds q_text q_duel q_cover q_clashes q_tally : Nat} {tP : Nat} {m_imagesKept : Int32} {m_bads : Int32} {m_nos : Int32} {m_fulls : Int32} {m_above : Int64} {m_below : Int64} {m_sayableByPair : Nat → Int32} {m_chosenPairs : Nat → Int32} {x3 : Int32} {x4 : Int32} (C0 : gm_C p s m args meth c (dC, dI) [(cI, .int)] A (gm_XP tP) RX10 cX10_choosePairs 5 (some .int) wsX10_choosePairs) {N : Nat} {out : Int32 × (Nat → Int32)}    {H : Heap} {locs : List Loc} {ls : Array Slot} (h : fX10_choosePairs_b97 N  m_chosenPairs x3 x4 = some out) (hH : gm_H (dC, dI) A s (wX10_choosePairs cI q q_sayableByPair q_chosenPairs q_now q_draft q_images q_kinds q_text q_duel q_cover q_clashes q_tally m_imagesKept m_bads m_nos m_fulls m_above m_below m_sayableByPair m_chosenPairs) H locs) (hl : lv_has ls 5 [(0, .ref q), (3, .int x3), (4, .int x4)]) : W p l e rX10_choosePairs s m args below meth c H locs 0 0 (MQ below (gm_Q (dC, dI) [(cI, .int)] A (some (.int out.1)) (wX10_choosePairs cI q q_sayableByPair q_chosenPairs q_now q_draft q_images q_kinds q_text q_duel q_cover q_clashes q_tally m_imagesKept m_bads m_nos m_fulls m_above m_below m_sayableByPair out.2)) args s 0 0 A) (F0 m 97 ls []) := by
  obtain ⟨hx, hb, hml, hr, hown, hts, hA, hK, hX, hlocks⟩ := id C0
  unfold fX10_choosePairs_b97 at h
  refine lv_aload_n hx hb dX10_choosePairs_97 rfl (lv_at hl 0 rfl) ?_
  refine gm_get (ci := 10) C0 hH inX10_choosePairs_X10 0 16 3 rfl rfl (by decide) rfl rfl dX10_choosePairs_98 ?_
  refine lv_iconst (v := 0) hx hb dX10_choosePairs_101 (by decide) ?_
  refine va_gets hx hb hX.1 hH.2.2 hown (gm_at C0 1 rfl) (fun _ h => h) dX10_choosePairs_102 ?_
  refine lv_iload_n hx hb dX10_choosePairs_105 rfl (lv_at hl 1 rfl) ?_
  obtain ⟨hi9, h⟩ := gm_chk_e h
  refine va_ti hx hb hX.2.1 hH.2.2 hi9 rfl dX10_choosePairs_106 ?_
  obtain ⟨hi10, h⟩ := gm_chk_e h
  refine gm_iast C0 hH hi10 2 0 rfl rfl dX10_choosePairs_107 (fun H locs hH => ?_)
  have hH : gm_H (dC, dI) A s (wX10_choosePairs cI q q_sayableByPair q_chosenPairs q_now q_draft q_images q_kinds q_text q_duel q_cover q_clashes q_tally m_imagesKept m_bads m_nos m_fulls m_above m_below m_sayableByPair (upd m_chosenPairs (Int32.toNatClampNeg 0) ((gm_pairs (Int32.toNatClampNeg x3))))) H locs := hH
  refine lv_aload_n hx hb dX10_choosePairs_108 rfl (lv_at hl 0 rfl) ?_
  refine gm_get (ci := 10) C0 hH inX10_choosePairs_X10 0 16 3 rfl rfl (by decide) rfl rfl dX10_choosePairs_109 ?_
  refine lv_iconst (v := 1) hx hb dX10_choosePairs_112 (by decide) ?_
  refine va_gets hx hb hX.1 hH.2.2 hown (gm_at C0 1 rfl) (fun _ h => h) dX10_choosePairs_113 ?_
  refine lv_iload hx hb dX10_choosePairs_116 (lv_at hl 2 rfl) ?_
  obtain ⟨hi11, h⟩ := gm_chk_e h
  refine va_ti hx hb hX.2.1 hH.2.2 hi11 rfl dX10_choosePairs_118 ?_
  obtain ⟨hi12, h⟩ := gm_chk_e h
  refine gm_iast C0 hH hi12 2 0 rfl rfl dX10_choosePairs_119 (fun H locs hH => ?_)
  have hH : gm_H (dC, dI) A s (wX10_choosePairs cI q q_sayableByPair q_chosenPairs q_now q_draft q_images q_kinds q_text q_duel q_cover q_clashes q_tally m_imagesKept m_bads m_nos m_fulls m_above m_below m_sayableByPair (upd (upd m_chosenPairs (Int32.toNatClampNeg 0) ((gm_pairs (Int32.toNatClampNeg x3)))) (Int32.toNatClampNeg 1) ((gm_pairs (Int32.toNatClampNeg x4))))) H locs := hH
  refine lv_iconst (v := 2) hx hb dX10_choosePairs_120 (by decide) ?_
  obtain rfl := Option.some.inj h
  exact gm_iret C0 hH dX10_choosePairs_121
set_option maxRecDepth 100000 in
set_option maxHeartbeats 4000000 in
theorem tX10_choosePairs_b67 {p : Program} {l : Launch} {e : Env} {s : State} {m : MethodId} {args : Array Value} {below : List Frame} {meth : Method} {c : Code} {A : Nat → Prop} {dC : Nat → ClassId} {dI : Nat → Nat → Nat} {cI : ClassId} {q q_sayableByPair q_chosenPairs q_now q_draft q_images q_kinds q_text q_duel q_cover q_clashes q_tally : Nat} {tP : Nat} {m_imagesKept : Int32} {m_bads : Int32} {m_nos : Int32} {m_fulls : Int32} {m_above : Int64} {m_below : Int64} {m_sayableByPair : Nat → Int32} {m_chosenPairs : Nat → Int32} {x2 : Int32} {x3 : Int32} (C0 : gm_C p s m args meth c (dC, dI) [(cI, .int)] A (gm_XP tP) RX10 cX10_choosePairs 5 (some .int) wsX10_choosePairs) {N : Nat} {out : Int32 × (Nat → Int32)} {r54 : Int32 → Option (Int32 × (Nat → Int32))} (hr54 : ∀ (x3 : Int32) (H : Heap) (locs : List Loc) (ls : Array Slot), r54 x3 = some out → gm_H (dC, dI) A s (wX10_choosePairs cI q q_sayableByPair q_chosenPairs q_now q_draft q_images q_kinds q_text q_duel q_cover q_clashes q_tally m_imagesKept m_bads m_nos m_fulls m_above m_below m_sayableByPair m_chosenPairs) H locs → lv_has ls 5 [(0, .ref q), (2, .int x2), (3, .int x3)] → W p l e rX10_choosePairs s m args below meth c H locs 0 0 (MQ below (gm_Q (dC, dI) [(cI, .int)] A (some (.int out.1)) (wX10_choosePairs cI q q_sayableByPair q_chosenPairs q_now q_draft q_images q_kinds q_text q_duel q_cover q_clashes q_tally m_imagesKept m_bads m_nos m_fulls m_above m_below m_sayableByPair out.2)) args s 0 0 A) (F0 m 54 ls []))  : ∀ (n : Nat), ∀ (x4 : Int32) (H : Heap) (locs : List Loc) (ls : Array Slot), (gm_fix (fX10_choosePairs_b67_body N r54 m_sayableByPair m_chosenPairs x2 x3) (fun _ => none) n) x4 = some out → gm_H (dC, dI) A s (wX10_choosePairs cI q q_sayableByPair q_chosenPairs q_now q_draft q_images q_kinds q_text q_duel q_cover q_clashes q_tally m_imagesKept m_bads m_nos m_fulls m_above m_below m_sayableByPair m_chosenPairs) H locs → lv_has ls 5 [(0, .ref q), (2, .int x2), (3, .int x3), (4, .int x4)] → W p l e rX10_choosePairs s m args below meth c H locs 0 0 (MQ below (gm_Q (dC, dI) [(cI, .int)] A (some (.int out.1)) (wX10_choosePairs cI q q_sayableByPair q_chosenPairs q_now q_draft q_images q_kinds q_text q_duel q_cover q_clashes q_tally m_imagesKept m_bads m_nos m_fulls m_above m_below m_sayableByPair out.2)) args s 0 0 A) (F0 m 67 ls []) := by
  obtain ⟨hx, hb, hml, hr, hown, hts, hA, hK, hX, hlocks⟩ := id C0
  intro n
  induction n with
  | zero =>
    intro x4 H locs ls h hH hl
    cases h
  | succ n hr67 =>
    intro x4 H locs ls h hH hl
    rw [gm_fix_s] at h
    unfold fX10_choosePairs_b67_body at h
    refine lv_iload hx hb dX10_choosePairs_67 (lv_at hl 3 rfl) ?_
    refine va_gets hx hb hX.1 hH.2.2 hown (gm_at C0 1 rfl) (fun _ h => h) dX10_choosePairs_69 ?_
    refine va_tlen (v := 28) hx hb hX.2.1 hH.2.2 rfl dX10_choosePairs_72 ?_
    refine lv_icmp_ge (tgt := 128) hx hb dX10_choosePairs_73 (by decide) (fun hc5 => ?_) (fun hc5 => ?_)
    · replace h := gm_pos hc5 h
      exact tX10_choosePairs_b128 C0 hr54 h hH (lv_sub hl [0, 1, 2] rfl)
    · replace h := gm_neg hc5 h
      refine lv_iload_n hx hb dX10_choosePairs_76 rfl (lv_at hl 1 rfl) ?_
      refine lv_aload_n hx hb dX10_choosePairs_77 rfl (lv_at hl 0 rfl) ?_
      refine gm_get (ci := 10) C0 hH inX10_choosePairs_X10 0 15 2 rfl rfl (by decide) rfl rfl dX10_choosePairs_78 ?_
      refine lv_iload_n hx hb dX10_choosePairs_81 rfl (lv_at hl 2 rfl) ?_
      obtain ⟨hi6, h⟩ := gm_chk_e h
      refine gm_iald C0 hH hi6 1 0 rfl rfl dX10_choosePairs_82 ?_
      refine lv_aload_n hx hb dX10_choosePairs_83 rfl (lv_at hl 0 rfl) ?_
      refine gm_get (ci := 10) C0 hH inX10_choosePairs_X10 0 15 2 rfl rfl (by decide) rfl rfl dX10_choosePairs_84 ?_
      refine lv_iload hx hb dX10_choosePairs_87 (lv_at hl 3 rfl) ?_
      obtain ⟨hi7, h⟩ := gm_chk_e h
      refine gm_iald C0 hH hi7 1 0 rfl rfl dX10_choosePairs_89 ?_
      refine lv_ior hx hb dX10_choosePairs_90 ?_
      refine lv_iconst (v := (-1)) hx hb dX10_choosePairs_91 (by decide) ?_
      refine lv_ixor hx hb dX10_choosePairs_92 ?_
      refine lv_iand hx hb dX10_choosePairs_93 ?_
      refine lv_if_ne (tgt := 122) hx hb dX10_choosePairs_94 (by decide) (fun hc8 => ?_) (fun hc8 => ?_)
      · replace h := gm_neg hc8 h
        refine lv_iinc (v := (x4 + 1)) (lv' := [(4, .int (x4 + 1)), (0, .ref q), (2, .int x2), (3, .int x3)]) hx hb dX10_choosePairs_122 hl (k := 3) rfl rfl (by decide) rfl (fun ls hl => ?_)
        refine lv_goto (tgt := 67) hx hb dX10_choosePairs_125 (by decide) ?_
        exact hr67 _ _ _ _ h hH (lv_sub hl [1, 2, 3, 0] rfl)
      · replace h := gm_pos hc8 h
        exact tX10_choosePairs_b97 C0  h hH (lv_sub hl [0, 2, 3] rfl)
set_option maxRecDepth 100000 in
set_option maxHeartbeats 4000000 in
theorem tX10_choosePairs_b54 {p : Program} {l : Launch} {e : Env} {s : State} {m : MethodId} {args : Array Value} {below : List Frame} {meth : Method} {c : Code} {A : Nat → Prop} {dC : Nat → ClassId} {dI : Nat → Nat → Nat} {cI : ClassId} {q q_sayableByPair q_chosenPairs q_now q_draft q_images q_kinds q_text q_duel q_cover q_clashes q_tally : Nat} {tP : Nat} {m_imagesKept : Int32} {m_bads : Int32} {m_nos : Int32} {m_fulls : Int32} {m_above : Int64} {m_below : Int64} {m_sayableByPair : Nat → Int32} {m_chosenPairs : Nat → Int32} {x2 : Int32} (C0 : gm_C p s m args meth c (dC, dI) [(cI, .int)] A (gm_XP tP) RX10 cX10_choosePairs 5 (some .int) wsX10_choosePairs) {N : Nat} {out : Int32 × (Nat → Int32)}   : ∀ (n : Nat), ∀ (x3 : Int32) (H : Heap) (locs : List Loc) (ls : Array Slot), (gm_fix (fX10_choosePairs_b54_body N  m_sayableByPair m_chosenPairs x2) (fun _ => none) n) x3 = some out → gm_H (dC, dI) A s (wX10_choosePairs cI q q_sayableByPair q_chosenPairs q_now q_draft q_images q_kinds q_text q_duel q_cover q_clashes q_tally m_imagesKept m_bads m_nos m_fulls m_above m_below m_sayableByPair m_chosenPairs) H locs → lv_has ls 5 [(0, .ref q), (2, .int x2), (3, .int x3)] → W p l e rX10_choosePairs s m args below meth c H locs 0 0 (MQ below (gm_Q (dC, dI) [(cI, .int)] A (some (.int out.1)) (wX10_choosePairs cI q q_sayableByPair q_chosenPairs q_now q_draft q_images q_kinds q_text q_duel q_cover q_clashes q_tally m_imagesKept m_bads m_nos m_fulls m_above m_below m_sayableByPair out.2)) args s 0 0 A) (F0 m 54 ls []) := by
  obtain ⟨hx, hb, hml, hr, hown, hts, hA, hK, hX, hlocks⟩ := id C0
  intro n
  induction n with
  | zero =>
    intro x3 H locs ls h hH hl
    cases h
  | succ n hr54 =>
    intro x3 H locs ls h hH hl
    rw [gm_fix_s] at h
    unfold fX10_choosePairs_b54_body at h
    refine lv_iload_n hx hb dX10_choosePairs_54 rfl (lv_at hl 2 rfl) ?_
    refine va_gets hx hb hX.1 hH.2.2 hown (gm_at C0 1 rfl) (fun _ h => h) dX10_choosePairs_55 ?_
    refine va_tlen (v := 28) hx hb hX.2.1 hH.2.2 rfl dX10_choosePairs_58 ?_
    refine lv_icmp_ge (tgt := 134) hx hb dX10_choosePairs_59 (by decide) (fun hc3 => ?_) (fun hc3 => ?_)
    · replace h := gm_pos hc3 h
      refine lv_iconst (v := (-1)) hx hb dX10_choosePairs_134 (by decide) ?_
      obtain rfl := Option.some.inj h
      exact gm_iret C0 hH dX10_choosePairs_135
    · replace h := gm_neg hc3 h
      refine lv_iload_n hx hb dX10_choosePairs_62 rfl (lv_at hl 2 rfl) ?_
      refine lv_iconst (v := 1) hx hb dX10_choosePairs_63 (by decide) ?_
      refine lv_iadd hx hb dX10_choosePairs_64 ?_
      refine lv_topi (fun v4 ev4 => ?_)
      replace h := gm_let_e ev4 h
      refine lv_istore (lv' := [(4, .int v4), (0, .ref q), (2, .int x2), (3, .int x3)]) hx hb dX10_choosePairs_65 hl (by decide) rfl (fun ls hl => ?_)
      unfold fX10_choosePairs_b67 at h
      exact tX10_choosePairs_b67 C0 hr54 _ _ _ _ _ h hH (lv_sub hl [1, 2, 3, 0] rfl)
set_option maxRecDepth 100000 in
set_option maxHeartbeats 4000000 in
theorem tX10_choosePairs_b52 {p : Program} {l : Launch} {e : Env} {s : State} {m : MethodId} {args : Array Value} {below : List Frame} {meth : Method} {c : Code} {A : Nat → Prop} {dC : Nat → ClassId} {dI : Nat → Nat → Nat} {cI : ClassId} {q q_sayableByPair q_chosenPairs q_now q_draft q_images q_kinds q_text q_duel q_cover q_clashes q_tally : Nat} {tP : Nat} {m_imagesKept : Int32} {m_bads : Int32} {m_nos : Int32} {m_fulls : Int32} {m_above : Int64} {m_below : Int64} {m_sayableByPair : Nat → Int32} {m_chosenPairs : Nat → Int32} {x2 : Int32} (C0 : gm_C p s m args meth c (dC, dI) [(cI, .int)] A (gm_XP tP) RX10 cX10_choosePairs 5 (some .int) wsX10_choosePairs) {N : Nat} {out : Int32 × (Nat → Int32)}    {H : Heap} {locs : List Loc} {ls : Array Slot} (h : fX10_choosePairs_b52 N  m_sayableByPair m_chosenPairs x2 = some out) (hH : gm_H (dC, dI) A s (wX10_choosePairs cI q q_sayableByPair q_chosenPairs q_now q_draft q_images q_kinds q_text q_duel q_cover q_clashes q_tally m_imagesKept m_bads m_nos m_fulls m_above m_below m_sayableByPair m_chosenPairs) H locs) (hl : lv_has ls 5 [(0, .ref q), (2, .int x2)]) : W p l e rX10_choosePairs s m args below meth c H locs 0 0 (MQ below (gm_Q (dC, dI) [(cI, .int)] A (some (.int out.1)) (wX10_choosePairs cI q q_sayableByPair q_chosenPairs q_now q_draft q_images q_kinds q_text q_duel q_cover q_clashes q_tally m_imagesKept m_bads m_nos m_fulls m_above m_below m_sayableByPair out.2)) args s 0 0 A) (F0 m 52 ls []) := by
  obtain ⟨hx, hb, hml, hr, hown, hts, hA, hK, hX, hlocks⟩ := id C0
  unfold fX10_choosePairs_b52 at h
  refine lv_iconst (v := 0) hx hb dX10_choosePairs_52 (by decide) ?_
  refine lv_istore_n (lv' := [(3, .int 0), (0, .ref q), (2, .int x2)]) hx hb dX10_choosePairs_53 rfl hl (by decide) rfl (fun ls hl => ?_)
  unfold fX10_choosePairs_b54 at h
  exact tX10_choosePairs_b54 C0  _ _ _ _ _ h hH (lv_sub hl [1, 2, 0] rfl)
set_option maxRecDepth 100000 in
set_option maxHeartbeats 4000000 in
theorem tX10_choosePairs_b33 {p : Program} {l : Launch} {e : Env} {s : State} {m : MethodId} {args : Array Value} {below : List Frame} {meth : Method} {c : Code} {A : Nat → Prop} {dC : Nat → ClassId} {dI : Nat → Nat → Nat} {cI : ClassId} {q q_sayableByPair q_chosenPairs q_now q_draft q_images q_kinds q_text q_duel q_cover q_clashes q_tally : Nat} {tP : Nat} {m_imagesKept : Int32} {m_bads : Int32} {m_nos : Int32} {m_fulls : Int32} {m_above : Int64} {m_below : Int64} {m_sayableByPair : Nat → Int32} {m_chosenPairs : Nat → Int32} {x3 : Int32} (C0 : gm_C p s m args meth c (dC, dI) [(cI, .int)] A (gm_XP tP) RX10 cX10_choosePairs 5 (some .int) wsX10_choosePairs) {N : Nat} {out : Int32 × (Nat → Int32)}    {H : Heap} {locs : List Loc} {ls : Array Slot} (h : fX10_choosePairs_b33 N  m_chosenPairs x3 = some out) (hH : gm_H (dC, dI) A s (wX10_choosePairs cI q q_sayableByPair q_chosenPairs q_now q_draft q_images q_kinds q_text q_duel q_cover q_clashes q_tally m_imagesKept m_bads m_nos m_fulls m_above m_below m_sayableByPair m_chosenPairs) H locs) (hl : lv_has ls 5 [(0, .ref q), (3, .int x3)]) : W p l e rX10_choosePairs s m args below meth c H locs 0 0 (MQ below (gm_Q (dC, dI) [(cI, .int)] A (some (.int out.1)) (wX10_choosePairs cI q q_sayableByPair q_chosenPairs q_now q_draft q_images q_kinds q_text q_duel q_cover q_clashes q_tally m_imagesKept m_bads m_nos m_fulls m_above m_below m_sayableByPair out.2)) args s 0 0 A) (F0 m 33 ls []) := by
  obtain ⟨hx, hb, hml, hr, hown, hts, hA, hK, hX, hlocks⟩ := id C0
  unfold fX10_choosePairs_b33 at h
  refine lv_aload_n hx hb dX10_choosePairs_33 rfl (lv_at hl 0 rfl) ?_
  refine gm_get (ci := 10) C0 hH inX10_choosePairs_X10 0 16 3 rfl rfl (by decide) rfl rfl dX10_choosePairs_34 ?_
  refine lv_iconst (v := 0) hx hb dX10_choosePairs_37 (by decide) ?_
  refine va_gets hx hb hX.1 hH.2.2 hown (gm_at C0 1 rfl) (fun _ h => h) dX10_choosePairs_38 ?_
  refine lv_iload_n hx hb dX10_choosePairs_41 rfl (lv_at hl 1 rfl) ?_
  obtain ⟨hi15, h⟩ := gm_chk_e h
  refine va_ti hx hb hX.2.1 hH.2.2 hi15 rfl dX10_choosePairs_42 ?_
  obtain ⟨hi16, h⟩ := gm_chk_e h
  refine gm_iast C0 hH hi16 2 0 rfl rfl dX10_choosePairs_43 (fun H locs hH => ?_)
  have hH : gm_H (dC, dI) A s (wX10_choosePairs cI q q_sayableByPair q_chosenPairs q_now q_draft q_images q_kinds q_text q_duel q_cover q_clashes q_tally m_imagesKept m_bads m_nos m_fulls m_above m_below m_sayableByPair (upd m_chosenPairs (Int32.toNatClampNeg 0) ((gm_pairs (Int32.toNatClampNeg x3))))) H locs := hH
  refine lv_iconst (v := 1) hx hb dX10_choosePairs_44 (by decide) ?_
  obtain rfl := Option.some.inj h
  exact gm_iret C0 hH dX10_choosePairs_45
set_option maxRecDepth 100000 in
set_option maxHeartbeats 4000000 in
theorem tX10_choosePairs_b12 {p : Program} {l : Launch} {e : Env} {s : State} {m : MethodId} {args : Array Value} {below : List Frame} {meth : Method} {c : Code} {A : Nat → Prop} {dC : Nat → ClassId} {dI : Nat → Nat → Nat} {cI : ClassId} {q q_sayableByPair q_chosenPairs q_now q_draft q_images q_kinds q_text q_duel q_cover q_clashes q_tally : Nat} {tP : Nat} {m_imagesKept : Int32} {m_bads : Int32} {m_nos : Int32} {m_fulls : Int32} {m_above : Int64} {m_below : Int64} {m_sayableByPair : Nat → Int32} {m_chosenPairs : Nat → Int32} {x2 : Int32} (C0 : gm_C p s m args meth c (dC, dI) [(cI, .int)] A (gm_XP tP) RX10 cX10_choosePairs 5 (some .int) wsX10_choosePairs) {N : Nat} {out : Int32 × (Nat → Int32)}   : ∀ (n : Nat), ∀ (x3 : Int32) (H : Heap) (locs : List Loc) (ls : Array Slot), (gm_fix (fX10_choosePairs_b12_body N  m_sayableByPair m_chosenPairs x2) (fun _ => none) n) x3 = some out → gm_H (dC, dI) A s (wX10_choosePairs cI q q_sayableByPair q_chosenPairs q_now q_draft q_images q_kinds q_text q_duel q_cover q_clashes q_tally m_imagesKept m_bads m_nos m_fulls m_above m_below m_sayableByPair m_chosenPairs) H locs → lv_has ls 5 [(0, .ref q), (2, .int x2), (3, .int x3)] → W p l e rX10_choosePairs s m args below meth c H locs 0 0 (MQ below (gm_Q (dC, dI) [(cI, .int)] A (some (.int out.1)) (wX10_choosePairs cI q q_sayableByPair q_chosenPairs q_now q_draft q_images q_kinds q_text q_duel q_cover q_clashes q_tally m_imagesKept m_bads m_nos m_fulls m_above m_below m_sayableByPair out.2)) args s 0 0 A) (F0 m 12 ls []) := by
  obtain ⟨hx, hb, hml, hr, hown, hts, hA, hK, hX, hlocks⟩ := id C0
  intro n
  induction n with
  | zero =>
    intro x3 H locs ls h hH hl
    cases h
  | succ n hr12 =>
    intro x3 H locs ls h hH hl
    rw [gm_fix_s] at h
    unfold fX10_choosePairs_b12_body at h
    refine lv_iload_n hx hb dX10_choosePairs_12 rfl (lv_at hl 2 rfl) ?_
    refine va_gets hx hb hX.1 hH.2.2 hown (gm_at C0 1 rfl) (fun _ h => h) dX10_choosePairs_13 ?_
    refine va_tlen (v := 28) hx hb hX.2.1 hH.2.2 rfl dX10_choosePairs_16 ?_
    refine lv_icmp_ge (tgt := 52) hx hb dX10_choosePairs_17 (by decide) (fun hc2 => ?_) (fun hc2 => ?_)
    · replace h := gm_pos hc2 h
      exact tX10_choosePairs_b52 C0  h hH (lv_sub hl [0, 1] rfl)
    · replace h := gm_neg hc2 h
      refine lv_iload_n hx hb dX10_choosePairs_20 rfl (lv_at hl 1 rfl) ?_
      refine lv_aload_n hx hb dX10_choosePairs_21 rfl (lv_at hl 0 rfl) ?_
      refine gm_get (ci := 10) C0 hH inX10_choosePairs_X10 0 15 2 rfl rfl (by decide) rfl rfl dX10_choosePairs_22 ?_
      refine lv_iload_n hx hb dX10_choosePairs_25 rfl (lv_at hl 2 rfl) ?_
      obtain ⟨hi13, h⟩ := gm_chk_e h
      refine gm_iald C0 hH hi13 1 0 rfl rfl dX10_choosePairs_26 ?_
      refine lv_iconst (v := (-1)) hx hb dX10_choosePairs_27 (by decide) ?_
      refine lv_ixor hx hb dX10_choosePairs_28 ?_
      refine lv_iand hx hb dX10_choosePairs_29 ?_
      refine lv_if_ne (tgt := 46) hx hb dX10_choosePairs_30 (by decide) (fun hc14 => ?_) (fun hc14 => ?_)
      · replace h := gm_neg hc14 h
        refine lv_iinc (v := (x3 + 1)) (lv' := [(3, .int (x3 + 1)), (0, .ref q), (2, .int x2)]) hx hb dX10_choosePairs_46 hl (k := 2) rfl rfl (by decide) rfl (fun ls hl => ?_)
        refine lv_goto (tgt := 12) hx hb dX10_choosePairs_49 (by decide) ?_
        exact hr12 _ _ _ _ h hH (lv_sub hl [1, 2, 0] rfl)
      · replace h := gm_pos hc14 h
        exact tX10_choosePairs_b33 C0  h hH (lv_sub hl [0, 2] rfl)
set_option maxRecDepth 100000 in
set_option maxHeartbeats 4000000 in
theorem mX10_choosePairs (l : Launch) (dC : Nat → ClassId) (dI : Nat → Nat → Nat) (cI : ClassId) (q q_sayableByPair q_chosenPairs q_now q_draft q_images q_kinds q_text q_duel q_cover q_clashes q_tally : Nat) (m_imagesKept : Int32) (m_bads : Int32) (m_nos : Int32) (m_fulls : Int32) (m_above : Int64) (m_below : Int64) (m_sayableByPair : Nat → Int32) (m_chosenPairs : Nat → Int32) (x1 : Int32) (x2 : Int32) (tP : Nat)  {N : Nat} {out : Int32 × (Nat → Int32)} (h : fX10_choosePairs N m_sayableByPair m_chosenPairs x1 x2 = some out) : gm_Met l yX10_choosePairs wsX10_choosePairs rX10_choosePairs (dC, dI) [(cI, .int)] (gm_XP tP) [.ref q, .int x1, .int x2] (wX10_choosePairs cI q q_sayableByPair q_chosenPairs q_now q_draft q_images q_kinds q_text q_duel q_cover q_clashes q_tally m_imagesKept m_bads m_nos m_fulls m_above m_below m_sayableByPair m_chosenPairs) (some (.int out.1)) (wX10_choosePairs cI q q_sayableByPair q_chosenPairs q_now q_draft q_images q_kinds q_text q_duel q_cover q_clashes q_tally m_imagesKept m_bads m_nos m_fulls m_above m_below m_sayableByPair out.2) := by
  refine gm_ofW (cc := cX10_choosePairs) (maxL := 5) (ret := (some .int)) (by decide +kernel) rfl (Nat.le_of_ble_eq_true rfl) ?_
  intro p e s m below meth c A C0 hH ls hl
  generalize ([.ref q, .int x1, .int x2] : List Value).toArray = args at C0 ⊢
  have hl : lv_has ls 5 [(0, .ref q), (1, .int x1), (2, .int x2)] := hl
  generalize s.heap = H at hH ⊢
  generalize ([] : List Loc) = locs at hH ⊢
  obtain ⟨hx, hb, hml, hr, hown, hts, hA, hK, hX, hlocks⟩ := id C0
  unfold fX10_choosePairs at h
  refine lv_iload_n hx hb dX10_choosePairs_0 rfl (lv_at hl 2 rfl) ?_
  refine lv_iload_n hx hb dX10_choosePairs_1 rfl (lv_at hl 1 rfl) ?_
  refine lv_iconst (v := (-1)) hx hb dX10_choosePairs_2 (by decide) ?_
  refine lv_ixor hx hb dX10_choosePairs_3 ?_
  refine lv_iand hx hb dX10_choosePairs_4 ?_
  refine lv_if_ne (tgt := 10) hx hb dX10_choosePairs_5 (by decide) (fun hc1 => ?_) (fun hc1 => ?_)
  · replace h := gm_neg hc1 h
    refine lv_iconst (v := 0) hx hb dX10_choosePairs_10 (by decide) ?_
    refine lv_istore_n (lv' := [(3, .int 0), (0, .ref q), (1, .int x1), (2, .int x2)]) hx hb dX10_choosePairs_11 rfl hl (by decide) rfl (fun ls hl => ?_)
    unfold fX10_choosePairs_b12 at h
    exact tX10_choosePairs_b12 C0  _ _ _ _ _ h hH (lv_sub hl [1, 3, 0] rfl)
  · replace h := gm_pos hc1 h
    refine lv_iconst (v := 0) hx hb dX10_choosePairs_8 (by decide) ?_
    obtain rfl := Option.some.inj h
    exact gm_iret C0 hH dX10_choosePairs_9
